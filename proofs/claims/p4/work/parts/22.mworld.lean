/-! The reference in the layer Go: object 0 with its 98 fields, its arrays 1 .. 63. -/
def shM : Nat → Nat × Nat × Nat := fun o => match o with
  | 0 => (0, 12, 98)
  | 1 => (1, 0, 1800)
  | 2 => (1, 0, 2)
  | 3 => (1, 0, 10)
  | 4 => (1, 0, 10)
  | 5 => (1, 0, 2)
  | 6 => (1, 0, 48)
  | 7 => (1, 0, 48)
  | 8 => (1, 0, 96)
  | 9 => (1, 0, 48)
  | 10 => (1, 0, 48)
  | 11 => (1, 0, 2)
  | 12 => (1, 0, 8)
  | 13 => (1, 0, 2)
  | 14 => (1, 0, 24)
  | 15 => (1, 0, 2)
  | 16 => (1, 0, 2)
  | 17 => (1, 0, 96)
  | 18 => (1, 0, 96)
  | 19 => (1, 0, 5600)
  | 20 => (1, 0, 5600)
  | 21 => (1, 0, 5600)
  | 22 => (2, 0, 8)
  | 23 => (2, 0, 48)
  | 24 => (1, 0, 10)
  | 25 => (1, 0, 10)
  | 26 => (1, 0, 10)
  | 27 => (1, 0, 10)
  | 28 => (1, 0, 6)
  | 29 => (1, 0, 12)
  | 30 => (1, 0, 900)
  | 31 => (1, 0, 8040)
  | 32 => (1, 0, 8040)
  | 33 => (1, 0, 4)
  | 34 => (1, 0, 4096)
  | 35 => (1, 0, 22)
  | 36 => (1, 0, 264)
  | 37 => (1, 0, 22)
  | 38 => (1, 0, 22)
  | 39 => (1, 0, 22)
  | 40 => (1, 0, 2640)
  | 41 => (1, 0, 8040)
  | 42 => (1, 0, 4)
  | 43 => (1, 0, 12)
  | 44 => (1, 0, 4)
  | 45 => (1, 0, 4096)
  | 46 => (1, 0, 1800)
  | 47 => (1, 0, 40)
  | 48 => (1, 0, 40)
  | 49 => (1, 0, 65536)
  | 50 => (1, 0, 4096)
  | 51 => (1, 0, 65536)
  | 52 => (1, 0, 65536)
  | 53 => (1, 0, 65536)
  | 54 => (1, 0, 40)
  | 55 => (1, 0, 40)
  | 56 => (1, 0, 40)
  | 57 => (1, 0, 1000)
  | 58 => (1, 0, 12)
  | 59 => (1, 0, 16)
  | 60 => (1, 0, 16)
  | 61 => (1, 0, 256)
  | 62 => (1, 0, 256)
  | 63 => (1, 0, 13)
  | _ => (9, 0, 0)
def ftM0 : Nat → Nat := fun k => match k with
  | 0 => 3
  | 1 => 0
  | 2 => 0
  | 3 => 0
  | 4 => 0
  | 5 => 0
  | 6 => 0
  | 7 => 1
  | 8 => 0
  | 9 => 0
  | 10 => 0
  | 11 => 0
  | 12 => 0
  | 13 => 0
  | 14 => 3
  | 15 => 3
  | 16 => 3
  | 17 => 3
  | 18 => 3
  | 19 => 3
  | 20 => 3
  | 21 => 3
  | 22 => 3
  | 23 => 3
  | 24 => 3
  | 25 => 3
  | 26 => 3
  | 27 => 3
  | 28 => 3
  | 29 => 3
  | 30 => 3
  | 31 => 3
  | 32 => 3
  | 33 => 3
  | 34 => 3
  | 35 => 3
  | 36 => 0
  | 37 => 0
  | 38 => 0
  | 39 => 3
  | 40 => 3
  | 41 => 3
  | 42 => 3
  | 43 => 0
  | 44 => 0
  | 45 => 3
  | 46 => 3
  | 47 => 3
  | 48 => 3
  | 49 => 3
  | 50 => 3
  | 51 => 3
  | 52 => 0
  | 53 => 3
  | 54 => 3
  | 55 => 3
  | 56 => 3
  | 57 => 3
  | 58 => 3
  | 59 => 0
  | 60 => 0
  | 61 => 1
  | 62 => 0
  | 63 => 3
  | 64 => 3
  | 65 => 3
  | 66 => 0
  | 67 => 3
  | 68 => 3
  | 69 => 3
  | 70 => 0
  | 71 => 3
  | 72 => 3
  | 73 => 0
  | 74 => 0
  | 75 => 3
  | 76 => 0
  | 77 => 3
  | 78 => 0
  | 79 => 3
  | 80 => 3
  | 81 => 0
  | 82 => 3
  | 83 => 3
  | 84 => 3
  | 85 => 3
  | 86 => 3
  | 87 => 0
  | 88 => 0
  | 89 => 0
  | 90 => 0
  | 91 => 3
  | 92 => 0
  | 93 => 3
  | 94 => 3
  | 95 => 3
  | 96 => 3
  | 97 => 3
  | _ => 0
def crM0 : Nat → Nat := fun k => match k with
  | 0 => 1
  | 14 => 2
  | 15 => 3
  | 16 => 4
  | 17 => 5
  | 18 => 6
  | 19 => 7
  | 20 => 8
  | 21 => 9
  | 22 => 10
  | 23 => 11
  | 24 => 12
  | 25 => 13
  | 26 => 14
  | 27 => 15
  | 28 => 16
  | 29 => 17
  | 30 => 18
  | 31 => 19
  | 32 => 20
  | 33 => 21
  | 34 => 22
  | 35 => 23
  | 39 => 24
  | 40 => 25
  | 41 => 26
  | 42 => 27
  | 45 => 28
  | 46 => 29
  | 47 => 30
  | 48 => 31
  | 49 => 32
  | 50 => 33
  | 51 => 34
  | 53 => 35
  | 54 => 36
  | 55 => 37
  | 56 => 38
  | 57 => 39
  | 58 => 40
  | 63 => 41
  | 64 => 42
  | 65 => 43
  | 67 => 44
  | 68 => 45
  | 69 => 46
  | 71 => 47
  | 72 => 48
  | 75 => 49
  | 77 => 50
  | 79 => 51
  | 80 => 52
  | 82 => 53
  | 83 => 54
  | 84 => 55
  | 85 => 56
  | 86 => 57
  | 91 => 58
  | 93 => 59
  | 94 => 60
  | 95 => 61
  | 96 => 62
  | 97 => 63
  | _ => 0
def WSM : WS := (64, fun o => o, shM, fun _ k => ftM0 k, fun _ k => crM0 k, [.int, .long])
theorem hiM : ∀ w ∈ u_ws RX12 TX12 98, w ∈ WT := by
  intro w h
  obtain ⟨k, hk, rfl⟩ := List.mem_map.mp h
  have hk := List.mem_range.mp hk
  rcases (show k = 0 ∨ k = 1 ∨ k = 2 ∨ k = 3 ∨ k = 4 ∨ k = 5 ∨ k = 6 ∨ k = 7 ∨ k = 8 ∨ k = 9 ∨ k = 10 ∨ k = 11 ∨ k = 12 ∨ k = 13 ∨ k = 14 ∨ k = 15 ∨ k = 16 ∨ k = 17 ∨ k = 18 ∨ k = 19 ∨ k = 20 ∨ k = 21 ∨ k = 22 ∨ k = 23 ∨ k = 24 ∨ k = 25 ∨ k = 26 ∨ k = 27 ∨ k = 28 ∨ k = 29 ∨ k = 30 ∨ k = 31 ∨ k = 32 ∨ k = 33 ∨ k = 34 ∨ k = 35 ∨ k = 36 ∨ k = 37 ∨ k = 38 ∨ k = 39 ∨ k = 40 ∨ k = 41 ∨ k = 42 ∨ k = 43 ∨ k = 44 ∨ k = 45 ∨ k = 46 ∨ k = 47 ∨ k = 48 ∨ k = 49 ∨ k = 50 ∨ k = 51 ∨ k = 52 ∨ k = 53 ∨ k = 54 ∨ k = 55 ∨ k = 56 ∨ k = 57 ∨ k = 58 ∨ k = 59 ∨ k = 60 ∨ k = 61 ∨ k = 62 ∨ k = 63 ∨ k = 64 ∨ k = 65 ∨ k = 66 ∨ k = 67 ∨ k = 68 ∨ k = 69 ∨ k = 70 ∨ k = 71 ∨ k = 72 ∨ k = 73 ∨ k = 74 ∨ k = 75 ∨ k = 76 ∨ k = 77 ∨ k = 78 ∨ k = 79 ∨ k = 80 ∨ k = 81 ∨ k = 82 ∨ k = 83 ∨ k = 84 ∨ k = 85 ∨ k = 86 ∨ k = 87 ∨ k = 88 ∨ k = 89 ∨ k = 90 ∨ k = 91 ∨ k = 92 ∨ k = 93 ∨ k = 94 ∨ k = 95 ∨ k = 96 ∨ k = 97 by omega) with rfl | rfl | rfl | rfl | rfl | rfl | rfl | rfl | rfl | rfl | rfl | rfl | rfl | rfl | rfl | rfl | rfl | rfl | rfl | rfl | rfl | rfl | rfl | rfl | rfl | rfl | rfl | rfl | rfl | rfl | rfl | rfl | rfl | rfl | rfl | rfl | rfl | rfl | rfl | rfl | rfl | rfl | rfl | rfl | rfl | rfl | rfl | rfl | rfl | rfl | rfl | rfl | rfl | rfl | rfl | rfl | rfl | rfl | rfl | rfl | rfl | rfl | rfl | rfl | rfl | rfl | rfl | rfl | rfl | rfl | rfl | rfl | rfl | rfl | rfl | rfl | rfl | rfl | rfl | rfl | rfl | rfl | rfl | rfl | rfl | rfl | rfl | rfl | rfl | rfl | rfl | rfl | rfl | rfl | rfl | rfl | rfl | rfl
  · exact t_1466
  · exact t_1468
  · exact t_1470
  · exact t_1472
  · exact t_1474
  · exact t_1476
  · exact t_1478
  · exact t_1480
  · exact t_1482
  · exact t_1484
  · exact t_1486
  · exact t_1488
  · exact t_1490
  · exact t_1492
  · exact t_1494
  · exact t_1496
  · exact t_1498
  · exact t_1500
  · exact t_1502
  · exact t_1504
  · exact t_1506
  · exact t_1508
  · exact t_1510
  · exact t_1512
  · exact t_1514
  · exact t_1516
  · exact t_1518
  · exact t_1520
  · exact t_1522
  · exact t_1524
  · exact t_1526
  · exact t_1528
  · exact t_1530
  · exact t_1532
  · exact t_1534
  · exact t_1536
  · exact t_1538
  · exact t_1540
  · exact t_1542
  · exact t_1544
  · exact t_1546
  · exact t_1548
  · exact t_1550
  · exact t_1552
  · exact t_1554
  · exact t_1556
  · exact t_1558
  · exact t_1560
  · exact t_1562
  · exact t_1564
  · exact t_1566
  · exact t_1568
  · exact t_1570
  · exact t_1572
  · exact t_1574
  · exact t_1576
  · exact t_1578
  · exact t_1580
  · exact t_1582
  · exact t_1584
  · exact t_1586
  · exact t_1588
  · exact t_1590
  · exact t_1592
  · exact t_1594
  · exact t_1596
  · exact t_1598
  · exact t_1600
  · exact t_1602
  · exact t_1604
  · exact t_1606
  · exact t_1608
  · exact t_1610
  · exact t_1612
  · exact t_1614
  · exact t_1616
  · exact t_1618
  · exact t_1620
  · exact t_1622
  · exact t_1624
  · exact t_1626
  · exact t_1628
  · exact t_1630
  · exact t_1632
  · exact t_1634
  · exact t_1636
  · exact t_1638
  · exact t_1640
  · exact t_1642
  · exact t_1644
  · exact t_1646
  · exact t_1648
  · exact t_1650
  · exact t_1652
  · exact t_1654
  · exact t_1656
  · exact t_1658
  · exact t_1660
theorem tyM : ∃ ty0 : Nat → FieldType, ∀ k, k < 98 → parseFieldDescriptor (TX12 k).2.2.1 = some (ty0 k) := by
  have h : ∀ k, k < 98 → (parseFieldDescriptor (TX12 k).2.2.1).isSome = true := by decide +kernel
  exact ⟨fun k => (parseFieldDescriptor (TX12 k).2.2.1).getD .int, fun k hk => by
    have h1 := h k hk
    cases h2 : parseFieldDescriptor (TX12 k).2.2.1 with
    | none => rw [h2] at h1; cases h1
    | some x => show some x = some ((parseFieldDescriptor (TX12 k).2.2.1).getD .int); rw [h2]; rfl⟩
theorem ffM0 {idx : Nat} (k : Nat) (hk : k < 98) (h : Cond.fieldLink RX12 idx (TX12 k).1 (TX12 k).2.1 (TX12 k).2.2.1 ∈ WT) : vwCl[12]? = some (RX12, TX12, 98) ∧ k < 98 ∧ (∀ w ∈ u_ws RX12 TX12 98, w ∈ WT) ∧ Cond.fieldLink RX12 idx (TX12 k).1 (TX12 k).2.1 (TX12 k).2.2.1 ∈ WT := ⟨rfl, hk, hiM, h⟩
section MR
variable {G : GT} {d : Nat} {i : MI} {pc : Nat} {ls : List (Nat × PV)} {st : List PV} {P : PH} {Q : Option PV → PH → Prop}
/-- tape -/
theorem ffM_0 : FF RX12 7 12 0 98 := ⟨RX12, TX12, rfl, by decide, hiM, t_1368⟩
theorem m_g0 (hc : i.1.cls = RX12) (hd : decode i.2.1 pc = .ok (.getfield 7, 3)) (k : Go WSM G d i (pc + 3) ls (vR 1 :: st) P Q) : Go WSM G d i pc ls (vR 0 :: st) P Q := g_getC (f := 0) (hc ▸ ffM_0) (by decide) rfl rfl hd k
/-- taped -/
theorem ffM_1 : FF RX12 13 12 1 98 := ⟨RX12, TX12, rfl, by decide, hiM, t_1369⟩
theorem m_g1 {z : Int} (hc : i.1.cls = RX12) (hd : decode i.2.1 pc = .ok (.getfield 13, 3)) (hz : P 0 1 = z) (k : Go WSM G d i (pc + 3) ls (vI z :: st) P Q) : Go WSM G d i pc ls (vR 0 :: st) P Q := by
  subst hz
  exact g_getI (f := 1) (hc ▸ ffM_1) (by decide) rfl rfl hd k
theorem m_p1 {x : Int} (hc : i.1.cls = RX12) (hd : decode i.2.1 pc = .ok (.putfield 13, 3)) (k : Go WSM G d i (pc + 3) ls st (up P 0 1 x) Q) : Go WSM G d i pc ls (vI x :: vR 0 :: st) P Q := g_putI (f := 1) (hc ▸ ⟨RX12, TX12, ffM0 1 (by decide) t_1369, tyM, nmX12, rfl, rfl⟩) (by decide) rfl rfl hd k
/-- size -/
theorem ffM_2 : FF RX12 17 12 2 98 := ⟨RX12, TX12, rfl, by decide, hiM, t_1370⟩
theorem m_g2 {z : Int} (hc : i.1.cls = RX12) (hd : decode i.2.1 pc = .ok (.getfield 17, 3)) (hz : P 0 2 = z) (k : Go WSM G d i (pc + 3) ls (vI z :: st) P Q) : Go WSM G d i pc ls (vR 0 :: st) P Q := by
  subst hz
  exact g_getI (f := 2) (hc ▸ ffM_2) (by decide) rfl rfl hd k
theorem m_p2 {x : Int} (hc : i.1.cls = RX12) (hd : decode i.2.1 pc = .ok (.putfield 17, 3)) (k : Go WSM G d i (pc + 3) ls st (up P 0 2 x) Q) : Go WSM G d i pc ls (vI x :: vR 0 :: st) P Q := g_putI (f := 2) (hc ▸ ⟨RX12, TX12, ffM0 2 (by decide) t_1370, tyM, nmX12, rfl, rfl⟩) (by decide) rfl rfl hd k
/-- sign -/
theorem ffM_3 : FF RX12 20 12 3 98 := ⟨RX12, TX12, rfl, by decide, hiM, t_1371⟩
theorem m_g3 {z : Int} (hc : i.1.cls = RX12) (hd : decode i.2.1 pc = .ok (.getfield 20, 3)) (hz : P 0 3 = z) (k : Go WSM G d i (pc + 3) ls (vI z :: st) P Q) : Go WSM G d i pc ls (vR 0 :: st) P Q := by
  subst hz
  exact g_getI (f := 3) (hc ▸ ffM_3) (by decide) rfl rfl hd k
theorem m_p3 {x : Int} (hc : i.1.cls = RX12) (hd : decode i.2.1 pc = .ok (.putfield 20, 3)) (k : Go WSM G d i (pc + 3) ls st (up P 0 3 x) Q) : Go WSM G d i pc ls (vI x :: vR 0 :: st) P Q := g_putI (f := 3) (hc ▸ ⟨RX12, TX12, ffM0 3 (by decide) t_1371, tyM, nmX12, rfl, rfl⟩) (by decide) rfl rfl hd k
/-- signAt -/
theorem ffM_4 : FF RX12 23 12 4 98 := ⟨RX12, TX12, rfl, by decide, hiM, t_1372⟩
theorem m_g4 {z : Int} (hc : i.1.cls = RX12) (hd : decode i.2.1 pc = .ok (.getfield 23, 3)) (hz : P 0 4 = z) (k : Go WSM G d i (pc + 3) ls (vI z :: st) P Q) : Go WSM G d i pc ls (vR 0 :: st) P Q := by
  subst hz
  exact g_getI (f := 4) (hc ▸ ffM_4) (by decide) rfl rfl hd k
theorem m_p4 {x : Int} (hc : i.1.cls = RX12) (hd : decode i.2.1 pc = .ok (.putfield 23, 3)) (k : Go WSM G d i (pc + 3) ls st (up P 0 4 x) Q) : Go WSM G d i pc ls (vI x :: vR 0 :: st) P Q := g_putI (f := 4) (hc ▸ ⟨RX12, TX12, ffM0 4 (by decide) t_1372, tyM, nmX12, rfl, rfl⟩) (by decide) rfl rfl hd k
/-- signEnd -/
theorem ffM_5 : FF RX12 26 12 5 98 := ⟨RX12, TX12, rfl, by decide, hiM, t_1373⟩
theorem m_g5 {z : Int} (hc : i.1.cls = RX12) (hd : decode i.2.1 pc = .ok (.getfield 26, 3)) (hz : P 0 5 = z) (k : Go WSM G d i (pc + 3) ls (vI z :: st) P Q) : Go WSM G d i pc ls (vR 0 :: st) P Q := by
  subst hz
  exact g_getI (f := 5) (hc ▸ ffM_5) (by decide) rfl rfl hd k
theorem m_p5 {x : Int} (hc : i.1.cls = RX12) (hd : decode i.2.1 pc = .ok (.putfield 26, 3)) (k : Go WSM G d i (pc + 3) ls st (up P 0 5 x) Q) : Go WSM G d i pc ls (vI x :: vR 0 :: st) P Q := g_putI (f := 5) (hc ▸ ⟨RX12, TX12, ffM0 5 (by decide) t_1373, tyM, nmX12, rfl, rfl⟩) (by decide) rfl rfl hd k
/-- value -/
theorem ffM_6 : FF RX12 29 12 6 98 := ⟨RX12, TX12, rfl, by decide, hiM, t_1374⟩
theorem m_g6 {z : Int} (hc : i.1.cls = RX12) (hd : decode i.2.1 pc = .ok (.getfield 29, 3)) (hz : P 0 6 = z) (k : Go WSM G d i (pc + 3) ls (vI z :: st) P Q) : Go WSM G d i pc ls (vR 0 :: st) P Q := by
  subst hz
  exact g_getI (f := 6) (hc ▸ ffM_6) (by decide) rfl rfl hd k
theorem m_p6 {x : Int} (hc : i.1.cls = RX12) (hd : decode i.2.1 pc = .ok (.putfield 29, 3)) (k : Go WSM G d i (pc + 3) ls st (up P 0 6 x) Q) : Go WSM G d i pc ls (vI x :: vR 0 :: st) P Q := g_putI (f := 6) (hc ▸ ⟨RX12, TX12, ffM0 6 (by decide) t_1374, tyM, nmX12, rfl, rfl⟩) (by decide) rfl rfl hd k
/-- word -/
theorem ffM_7 : FF RX12 32 12 7 98 := ⟨RX12, TX12, rfl, by decide, hiM, t_1375⟩
theorem m_g7 {z : Int} (hc : i.1.cls = RX12) (hd : decode i.2.1 pc = .ok (.getfield 32, 3)) (hz : P 0 7 = z) (k : Go WSM G d i (pc + 3) ls (vL z :: st) P Q) : Go WSM G d i pc ls (vR 0 :: st) P Q := by
  subst hz
  exact g_getL (f := 7) (hc ▸ ffM_7) (by decide) rfl rfl hd k
theorem m_p7 {x : Int} (hc : i.1.cls = RX12) (hd : decode i.2.1 pc = .ok (.putfield 32, 3)) (k : Go WSM G d i (pc + 3) ls st (up P 0 7 x) Q) : Go WSM G d i pc ls (vL x :: vR 0 :: st) P Q := g_putL (f := 7) (hc ▸ ⟨RX12, TX12, ffM0 7 (by decide) t_1375, tyM, nmX12, rfl, rfl⟩) (by decide) rfl rfl hd k
/-- faultKind -/
theorem ffM_8 : FF RX12 36 12 8 98 := ⟨RX12, TX12, rfl, by decide, hiM, t_1376⟩
theorem m_g8 {z : Int} (hc : i.1.cls = RX12) (hd : decode i.2.1 pc = .ok (.getfield 36, 3)) (hz : P 0 8 = z) (k : Go WSM G d i (pc + 3) ls (vI z :: st) P Q) : Go WSM G d i pc ls (vR 0 :: st) P Q := by
  subst hz
  exact g_getI (f := 8) (hc ▸ ffM_8) (by decide) rfl rfl hd k
theorem m_p8 {x : Int} (hc : i.1.cls = RX12) (hd : decode i.2.1 pc = .ok (.putfield 36, 3)) (k : Go WSM G d i (pc + 3) ls st (up P 0 8 x) Q) : Go WSM G d i pc ls (vI x :: vR 0 :: st) P Q := g_putI (f := 8) (hc ▸ ⟨RX12, TX12, ffM0 8 (by decide) t_1376, tyM, nmX12, rfl, rfl⟩) (by decide) rfl rfl hd k
/-- faultPlace -/
theorem ffM_9 : FF RX12 39 12 9 98 := ⟨RX12, TX12, rfl, by decide, hiM, t_1377⟩
theorem m_g9 {z : Int} (hc : i.1.cls = RX12) (hd : decode i.2.1 pc = .ok (.getfield 39, 3)) (hz : P 0 9 = z) (k : Go WSM G d i (pc + 3) ls (vI z :: st) P Q) : Go WSM G d i pc ls (vR 0 :: st) P Q := by
  subst hz
  exact g_getI (f := 9) (hc ▸ ffM_9) (by decide) rfl rfl hd k
theorem m_p9 {x : Int} (hc : i.1.cls = RX12) (hd : decode i.2.1 pc = .ok (.putfield 39, 3)) (k : Go WSM G d i (pc + 3) ls st (up P 0 9 x) Q) : Go WSM G d i pc ls (vI x :: vR 0 :: st) P Q := g_putI (f := 9) (hc ▸ ⟨RX12, TX12, ffM0 9 (by decide) t_1377, tyM, nmX12, rfl, rfl⟩) (by decide) rfl rfl hd k
/-- toldKind -/
theorem ffM_10 : FF RX12 42 12 10 98 := ⟨RX12, TX12, rfl, by decide, hiM, t_1378⟩
theorem m_g10 {z : Int} (hc : i.1.cls = RX12) (hd : decode i.2.1 pc = .ok (.getfield 42, 3)) (hz : P 0 10 = z) (k : Go WSM G d i (pc + 3) ls (vI z :: st) P Q) : Go WSM G d i pc ls (vR 0 :: st) P Q := by
  subst hz
  exact g_getI (f := 10) (hc ▸ ffM_10) (by decide) rfl rfl hd k
theorem m_p10 {x : Int} (hc : i.1.cls = RX12) (hd : decode i.2.1 pc = .ok (.putfield 42, 3)) (k : Go WSM G d i (pc + 3) ls st (up P 0 10 x) Q) : Go WSM G d i pc ls (vI x :: vR 0 :: st) P Q := g_putI (f := 10) (hc ▸ ⟨RX12, TX12, ffM0 10 (by decide) t_1378, tyM, nmX12, rfl, rfl⟩) (by decide) rfl rfl hd k
/-- toldPlace -/
theorem ffM_11 : FF RX12 45 12 11 98 := ⟨RX12, TX12, rfl, by decide, hiM, t_1379⟩
theorem m_g11 {z : Int} (hc : i.1.cls = RX12) (hd : decode i.2.1 pc = .ok (.getfield 45, 3)) (hz : P 0 11 = z) (k : Go WSM G d i (pc + 3) ls (vI z :: st) P Q) : Go WSM G d i pc ls (vR 0 :: st) P Q := by
  subst hz
  exact g_getI (f := 11) (hc ▸ ffM_11) (by decide) rfl rfl hd k
theorem m_p11 {x : Int} (hc : i.1.cls = RX12) (hd : decode i.2.1 pc = .ok (.putfield 45, 3)) (k : Go WSM G d i (pc + 3) ls st (up P 0 11 x) Q) : Go WSM G d i pc ls (vI x :: vR 0 :: st) P Q := g_putI (f := 11) (hc ▸ ⟨RX12, TX12, ffM0 11 (by decide) t_1379, tyM, nmX12, rfl, rfl⟩) (by decide) rfl rfl hd k
/-- lexAt -/
theorem ffM_12 : FF RX12 48 12 12 98 := ⟨RX12, TX12, rfl, by decide, hiM, t_1380⟩
theorem m_g12 {z : Int} (hc : i.1.cls = RX12) (hd : decode i.2.1 pc = .ok (.getfield 48, 3)) (hz : P 0 12 = z) (k : Go WSM G d i (pc + 3) ls (vI z :: st) P Q) : Go WSM G d i pc ls (vR 0 :: st) P Q := by
  subst hz
  exact g_getI (f := 12) (hc ▸ ffM_12) (by decide) rfl rfl hd k
theorem m_p12 {x : Int} (hc : i.1.cls = RX12) (hd : decode i.2.1 pc = .ok (.putfield 48, 3)) (k : Go WSM G d i (pc + 3) ls st (up P 0 12 x) Q) : Go WSM G d i pc ls (vI x :: vR 0 :: st) P Q := g_putI (f := 12) (hc ▸ ⟨RX12, TX12, ffM0 12 (by decide) t_1380, tyM, nmX12, rfl, rfl⟩) (by decide) rfl rfl hd k
/-- bank -/
theorem ffM_13 : FF RX12 51 12 13 98 := ⟨RX12, TX12, rfl, by decide, hiM, t_1381⟩
theorem m_g13 {z : Int} (hc : i.1.cls = RX12) (hd : decode i.2.1 pc = .ok (.getfield 51, 3)) (hz : P 0 13 = z) (k : Go WSM G d i (pc + 3) ls (vI z :: st) P Q) : Go WSM G d i pc ls (vR 0 :: st) P Q := by
  subst hz
  exact g_getI (f := 13) (hc ▸ ffM_13) (by decide) rfl rfl hd k
theorem m_p13 {x : Int} (hc : i.1.cls = RX12) (hd : decode i.2.1 pc = .ok (.putfield 51, 3)) (k : Go WSM G d i (pc + 3) ls st (up P 0 13 x) Q) : Go WSM G d i pc ls (vI x :: vR 0 :: st) P Q := g_putI (f := 13) (hc ▸ ⟨RX12, TX12, ffM0 13 (by decide) t_1381, tyM, nmX12, rfl, rfl⟩) (by decide) rfl rfl hd k
/-- kindMany -/
theorem ffM_14 : FF RX12 54 12 14 98 := ⟨RX12, TX12, rfl, by decide, hiM, t_1382⟩
theorem m_g14 (hc : i.1.cls = RX12) (hd : decode i.2.1 pc = .ok (.getfield 54, 3)) (k : Go WSM G d i (pc + 3) ls (vR 2 :: st) P Q) : Go WSM G d i pc ls (vR 0 :: st) P Q := g_getC (f := 14) (hc ▸ ffM_14) (by decide) rfl rfl hd k
/-- kindValues -/
theorem ffM_15 : FF RX12 57 12 15 98 := ⟨RX12, TX12, rfl, by decide, hiM, t_1383⟩
theorem m_g15 (hc : i.1.cls = RX12) (hd : decode i.2.1 pc = .ok (.getfield 57, 3)) (k : Go WSM G d i (pc + 3) ls (vR 3 :: st) P Q) : Go WSM G d i pc ls (vR 0 :: st) P Q := g_getC (f := 15) (hc ▸ ffM_15) (by decide) rfl rfl hd k
/-- kindCons -/
theorem ffM_16 : FF RX12 60 12 16 98 := ⟨RX12, TX12, rfl, by decide, hiM, t_1384⟩
theorem m_g16 (hc : i.1.cls = RX12) (hd : decode i.2.1 pc = .ok (.getfield 60, 3)) (k : Go WSM G d i (pc + 3) ls (vR 4 :: st) P Q) : Go WSM G d i pc ls (vR 0 :: st) P Q := g_getC (f := 16) (hc ▸ ffM_16) (by decide) rfl rfl hd k
/-- conMany -/
theorem ffM_17 : FF RX12 63 12 17 98 := ⟨RX12, TX12, rfl, by decide, hiM, t_1385⟩
theorem m_g17 (hc : i.1.cls = RX12) (hd : decode i.2.1 pc = .ok (.getfield 63, 3)) (k : Go WSM G d i (pc + 3) ls (vR 5 :: st) P Q) : Go WSM G d i pc ls (vR 0 :: st) P Q := g_getC (f := 17) (hc ▸ ffM_17) (by decide) rfl rfl hd k
/-- conKind -/
theorem ffM_18 : FF RX12 66 12 18 98 := ⟨RX12, TX12, rfl, by decide, hiM, t_1386⟩
theorem m_g18 (hc : i.1.cls = RX12) (hd : decode i.2.1 pc = .ok (.getfield 66, 3)) (k : Go WSM G d i (pc + 3) ls (vR 6 :: st) P Q) : Go WSM G d i pc ls (vR 0 :: st) P Q := g_getC (f := 18) (hc ▸ ffM_18) (by decide) rfl rfl hd k
/-- conFields -/
theorem ffM_19 : FF RX12 69 12 19 98 := ⟨RX12, TX12, rfl, by decide, hiM, t_1387⟩
theorem m_g19 (hc : i.1.cls = RX12) (hd : decode i.2.1 pc = .ok (.getfield 69, 3)) (k : Go WSM G d i (pc + 3) ls (vR 7 :: st) P Q) : Go WSM G d i pc ls (vR 0 :: st) P Q := g_getC (f := 19) (hc ▸ ffM_19) (by decide) rfl rfl hd k
/-- conField -/
theorem ffM_20 : FF RX12 72 12 20 98 := ⟨RX12, TX12, rfl, by decide, hiM, t_1388⟩
theorem m_g20 (hc : i.1.cls = RX12) (hd : decode i.2.1 pc = .ok (.getfield 72, 3)) (k : Go WSM G d i (pc + 3) ls (vR 8 :: st) P Q) : Go WSM G d i pc ls (vR 0 :: st) P Q := g_getC (f := 20) (hc ▸ ffM_20) (by decide) rfl rfl hd k
/-- conFrom -/
theorem ffM_21 : FF RX12 75 12 21 98 := ⟨RX12, TX12, rfl, by decide, hiM, t_1389⟩
theorem m_g21 (hc : i.1.cls = RX12) (hd : decode i.2.1 pc = .ok (.getfield 75, 3)) (k : Go WSM G d i (pc + 3) ls (vR 9 :: st) P Q) : Go WSM G d i pc ls (vR 0 :: st) P Q := g_getC (f := 21) (hc ▸ ffM_21) (by decide) rfl rfl hd k
/-- conValues -/
theorem ffM_22 : FF RX12 78 12 22 98 := ⟨RX12, TX12, rfl, by decide, hiM, t_1390⟩
theorem m_g22 (hc : i.1.cls = RX12) (hd : decode i.2.1 pc = .ok (.getfield 78, 3)) (k : Go WSM G d i (pc + 3) ls (vR 10 :: st) P Q) : Go WSM G d i pc ls (vR 0 :: st) P Q := g_getC (f := 22) (hc ▸ ffM_22) (by decide) rfl rfl hd k
/-- columnMany -/
theorem ffM_23 : FF RX12 81 12 23 98 := ⟨RX12, TX12, rfl, by decide, hiM, t_1391⟩
theorem m_g23 (hc : i.1.cls = RX12) (hd : decode i.2.1 pc = .ok (.getfield 81, 3)) (k : Go WSM G d i (pc + 3) ls (vR 11 :: st) P Q) : Go WSM G d i pc ls (vR 0 :: st) P Q := g_getC (f := 23) (hc ▸ ffM_23) (by decide) rfl rfl hd k
/-- columnKind -/
theorem ffM_24 : FF RX12 84 12 24 98 := ⟨RX12, TX12, rfl, by decide, hiM, t_1392⟩
theorem m_g24 (hc : i.1.cls = RX12) (hd : decode i.2.1 pc = .ok (.getfield 84, 3)) (k : Go WSM G d i (pc + 3) ls (vR 12 :: st) P Q) : Go WSM G d i pc ls (vR 0 :: st) P Q := g_getC (f := 24) (hc ▸ ffM_24) (by decide) rfl rfl hd k
/-- armMany -/
theorem ffM_25 : FF RX12 87 12 25 98 := ⟨RX12, TX12, rfl, by decide, hiM, t_1393⟩
theorem m_g25 (hc : i.1.cls = RX12) (hd : decode i.2.1 pc = .ok (.getfield 87, 3)) (k : Go WSM G d i (pc + 3) ls (vR 13 :: st) P Q) : Go WSM G d i pc ls (vR 0 :: st) P Q := g_getC (f := 25) (hc ▸ ffM_25) (by decide) rfl rfl hd k
/-- armGuard -/
theorem ffM_26 : FF RX12 90 12 26 98 := ⟨RX12, TX12, rfl, by decide, hiM, t_1394⟩
theorem m_g26 (hc : i.1.cls = RX12) (hd : decode i.2.1 pc = .ok (.getfield 90, 3)) (k : Go WSM G d i (pc + 3) ls (vR 14 :: st) P Q) : Go WSM G d i pc ls (vR 0 :: st) P Q := g_getC (f := 26) (hc ▸ ffM_26) (by decide) rfl rfl hd k
/-- ruleTold -/
theorem ffM_27 : FF RX12 93 12 27 98 := ⟨RX12, TX12, rfl, by decide, hiM, t_1395⟩
theorem m_g27 (hc : i.1.cls = RX12) (hd : decode i.2.1 pc = .ok (.getfield 93, 3)) (k : Go WSM G d i (pc + 3) ls (vR 15 :: st) P Q) : Go WSM G d i pc ls (vR 0 :: st) P Q := g_getC (f := 27) (hc ▸ ffM_27) (by decide) rfl rfl hd k
/-- budgetTold -/
theorem ffM_28 : FF RX12 96 12 28 98 := ⟨RX12, TX12, rfl, by decide, hiM, t_1396⟩
theorem m_g28 (hc : i.1.cls = RX12) (hd : decode i.2.1 pc = .ok (.getfield 96, 3)) (k : Go WSM G d i (pc + 3) ls (vR 16 :: st) P Q) : Go WSM G d i pc ls (vR 0 :: st) P Q := g_getC (f := 28) (hc ▸ ffM_28) (by decide) rfl rfl hd k
/-- patFrom -/
theorem ffM_29 : FF RX12 99 12 29 98 := ⟨RX12, TX12, rfl, by decide, hiM, t_1397⟩
theorem m_g29 (hc : i.1.cls = RX12) (hd : decode i.2.1 pc = .ok (.getfield 99, 3)) (k : Go WSM G d i (pc + 3) ls (vR 17 :: st) P Q) : Go WSM G d i pc ls (vR 0 :: st) P Q := g_getC (f := 29) (hc ▸ ffM_29) (by decide) rfl rfl hd k
/-- patBehind -/
theorem ffM_30 : FF RX12 102 12 30 98 := ⟨RX12, TX12, rfl, by decide, hiM, t_1398⟩
theorem m_g30 (hc : i.1.cls = RX12) (hd : decode i.2.1 pc = .ok (.getfield 102, 3)) (k : Go WSM G d i (pc + 3) ls (vR 18 :: st) P Q) : Go WSM G d i pc ls (vR 0 :: st) P Q := g_getC (f := 30) (hc ▸ ffM_30) (by decide) rfl rfl hd k
/-- codeOp -/
theorem ffM_31 : FF RX12 105 12 31 98 := ⟨RX12, TX12, rfl, by decide, hiM, t_1399⟩
theorem m_g31 (hc : i.1.cls = RX12) (hd : decode i.2.1 pc = .ok (.getfield 105, 3)) (k : Go WSM G d i (pc + 3) ls (vR 19 :: st) P Q) : Go WSM G d i pc ls (vR 0 :: st) P Q := g_getC (f := 31) (hc ▸ ffM_31) (by decide) rfl rfl hd k
/-- codeA -/
theorem ffM_32 : FF RX12 108 12 32 98 := ⟨RX12, TX12, rfl, by decide, hiM, t_1400⟩
theorem m_g32 (hc : i.1.cls = RX12) (hd : decode i.2.1 pc = .ok (.getfield 108, 3)) (k : Go WSM G d i (pc + 3) ls (vR 20 :: st) P Q) : Go WSM G d i pc ls (vR 0 :: st) P Q := g_getC (f := 32) (hc ▸ ffM_32) (by decide) rfl rfl hd k
/-- codeB -/
theorem ffM_33 : FF RX12 111 12 33 98 := ⟨RX12, TX12, rfl, by decide, hiM, t_1401⟩
theorem m_g33 (hc : i.1.cls = RX12) (hd : decode i.2.1 pc = .ok (.getfield 111, 3)) (k : Go WSM G d i (pc + 3) ls (vR 21 :: st) P Q) : Go WSM G d i pc ls (vR 0 :: st) P Q := g_getC (f := 33) (hc ▸ ffM_33) (by decide) rfl rfl hd k
/-- kindName -/
theorem ffM_34 : FF RX12 114 12 34 98 := ⟨RX12, TX12, rfl, by decide, hiM, t_1402⟩
theorem m_g34 (hc : i.1.cls = RX12) (hd : decode i.2.1 pc = .ok (.getfield 114, 3)) (k : Go WSM G d i (pc + 3) ls (vR 22 :: st) P Q) : Go WSM G d i pc ls (vR 0 :: st) P Q := g_getC (f := 34) (hc ▸ ffM_34) (by decide) rfl rfl hd k
/-- conName -/
theorem ffM_35 : FF RX12 118 12 35 98 := ⟨RX12, TX12, rfl, by decide, hiM, t_1403⟩
theorem m_g35 (hc : i.1.cls = RX12) (hd : decode i.2.1 pc = .ok (.getfield 118, 3)) (k : Go WSM G d i (pc + 3) ls (vR 23 :: st) P Q) : Go WSM G d i pc ls (vR 0 :: st) P Q := g_getC (f := 35) (hc ▸ ffM_35) (by decide) rfl rfl hd k
/-- codes -/
theorem ffM_36 : FF RX12 121 12 36 98 := ⟨RX12, TX12, rfl, by decide, hiM, t_1404⟩
theorem m_g36 {z : Int} (hc : i.1.cls = RX12) (hd : decode i.2.1 pc = .ok (.getfield 121, 3)) (hz : P 0 36 = z) (k : Go WSM G d i (pc + 3) ls (vI z :: st) P Q) : Go WSM G d i pc ls (vR 0 :: st) P Q := by
  subst hz
  exact g_getI (f := 36) (hc ▸ ffM_36) (by decide) rfl rfl hd k
theorem m_p36 {x : Int} (hc : i.1.cls = RX12) (hd : decode i.2.1 pc = .ok (.putfield 121, 3)) (k : Go WSM G d i (pc + 3) ls st (up P 0 36 x) Q) : Go WSM G d i pc ls (vI x :: vR 0 :: st) P Q := g_putI (f := 36) (hc ▸ ⟨RX12, TX12, ffM0 36 (by decide) t_1404, tyM, nmX12, rfl, rfl⟩) (by decide) rfl rfl hd k
/-- in -/
theorem ffM_37 : FF RX12 124 12 37 98 := ⟨RX12, TX12, rfl, by decide, hiM, t_1405⟩
theorem m_g37 {z : Int} (hc : i.1.cls = RX12) (hd : decode i.2.1 pc = .ok (.getfield 124, 3)) (hz : P 0 37 = z) (k : Go WSM G d i (pc + 3) ls (vI z :: st) P Q) : Go WSM G d i pc ls (vR 0 :: st) P Q := by
  subst hz
  exact g_getI (f := 37) (hc ▸ ffM_37) (by decide) rfl rfl hd k
theorem m_p37 {x : Int} (hc : i.1.cls = RX12) (hd : decode i.2.1 pc = .ok (.putfield 124, 3)) (k : Go WSM G d i (pc + 3) ls st (up P 0 37 x) Q) : Go WSM G d i pc ls (vI x :: vR 0 :: st) P Q := g_putI (f := 37) (hc ▸ ⟨RX12, TX12, ffM0 37 (by decide) t_1405, tyM, nmX12, rfl, rfl⟩) (by decide) rfl rfl hd k
/-- isMatched -/
theorem ffM_38 : FF RX12 127 12 38 98 := ⟨RX12, TX12, rfl, by decide, hiM, t_1406⟩
theorem m_g38 {z : Int} (hc : i.1.cls = RX12) (hd : decode i.2.1 pc = .ok (.getfield 127, 3)) (hz : P 0 38 = z) (k : Go WSM G d i (pc + 3) ls (vI z :: st) P Q) : Go WSM G d i pc ls (vR 0 :: st) P Q := by
  subst hz
  exact g_getI (f := 38) (hc ▸ ffM_38) (by decide) rfl rfl hd k
theorem m_p38 {x : Int} (hc : i.1.cls = RX12) (hd : decode i.2.1 pc = .ok (.putfield 127, 3)) (hz : x = 0 ∨ x = 1) (k : Go WSM G d i (pc + 3) ls st (up P 0 38 x) Q) : Go WSM G d i pc ls (vI x :: vR 0 :: st) P Q := g_putZ (f := 38) (hc ▸ ⟨RX12, TX12, ffM0 38 (by decide) t_1406, tyM, nmX12, rfl, rfl⟩) (by decide) rfl rfl hz hd k
/-- openKind -/
theorem ffM_39 : FF RX12 131 12 39 98 := ⟨RX12, TX12, rfl, by decide, hiM, t_1407⟩
theorem m_g39 (hc : i.1.cls = RX12) (hd : decode i.2.1 pc = .ok (.getfield 131, 3)) (k : Go WSM G d i (pc + 3) ls (vR 24 :: st) P Q) : Go WSM G d i pc ls (vR 0 :: st) P Q := g_getC (f := 39) (hc ▸ ffM_39) (by decide) rfl rfl hd k
/-- openAlts -/
theorem ffM_40 : FF RX12 134 12 40 98 := ⟨RX12, TX12, rfl, by decide, hiM, t_1408⟩
theorem m_g40 (hc : i.1.cls = RX12) (hd : decode i.2.1 pc = .ok (.getfield 134, 3)) (k : Go WSM G d i (pc + 3) ls (vR 25 :: st) P Q) : Go WSM G d i pc ls (vR 0 :: st) P Q := g_getC (f := 40) (hc ▸ ffM_40) (by decide) rfl rfl hd k
/-- openCon -/
theorem ffM_41 : FF RX12 137 12 41 98 := ⟨RX12, TX12, rfl, by decide, hiM, t_1409⟩
theorem m_g41 (hc : i.1.cls = RX12) (hd : decode i.2.1 pc = .ok (.getfield 137, 3)) (k : Go WSM G d i (pc + 3) ls (vR 26 :: st) P Q) : Go WSM G d i pc ls (vR 0 :: st) P Q := g_getC (f := 41) (hc ▸ ffM_41) (by decide) rfl rfl hd k
/-- openField -/
theorem ffM_42 : FF RX12 140 12 42 98 := ⟨RX12, TX12, rfl, by decide, hiM, t_1410⟩
theorem m_g42 (hc : i.1.cls = RX12) (hd : decode i.2.1 pc = .ok (.getfield 140, 3)) (k : Go WSM G d i (pc + 3) ls (vR 27 :: st) P Q) : Go WSM G d i pc ls (vR 0 :: st) P Q := g_getC (f := 42) (hc ▸ ffM_42) (by decide) rfl rfl hd k
/-- open -/
theorem ffM_43 : FF RX12 143 12 43 98 := ⟨RX12, TX12, rfl, by decide, hiM, t_1411⟩
theorem m_g43 {z : Int} (hc : i.1.cls = RX12) (hd : decode i.2.1 pc = .ok (.getfield 143, 3)) (hz : P 0 43 = z) (k : Go WSM G d i (pc + 3) ls (vI z :: st) P Q) : Go WSM G d i pc ls (vR 0 :: st) P Q := by
  subst hz
  exact g_getI (f := 43) (hc ▸ ffM_43) (by decide) rfl rfl hd k
theorem m_p43 {x : Int} (hc : i.1.cls = RX12) (hd : decode i.2.1 pc = .ok (.putfield 143, 3)) (k : Go WSM G d i (pc + 3) ls st (up P 0 43 x) Q) : Go WSM G d i pc ls (vI x :: vR 0 :: st) P Q := g_putI (f := 43) (hc ▸ ⟨RX12, TX12, ffM0 43 (by decide) t_1411, tyM, nmX12, rfl, rfl⟩) (by decide) rfl rfl hd k
/-- isMatch -/
theorem ffM_44 : FF RX12 146 12 44 98 := ⟨RX12, TX12, rfl, by decide, hiM, t_1412⟩
theorem m_g44 {z : Int} (hc : i.1.cls = RX12) (hd : decode i.2.1 pc = .ok (.getfield 146, 3)) (hz : P 0 44 = z) (k : Go WSM G d i (pc + 3) ls (vI z :: st) P Q) : Go WSM G d i pc ls (vR 0 :: st) P Q := by
  subst hz
  exact g_getI (f := 44) (hc ▸ ffM_44) (by decide) rfl rfl hd k
theorem m_p44 {x : Int} (hc : i.1.cls = RX12) (hd : decode i.2.1 pc = .ok (.putfield 146, 3)) (hz : x = 0 ∨ x = 1) (k : Go WSM G d i (pc + 3) ls st (up P 0 44 x) Q) : Go WSM G d i pc ls (vI x :: vR 0 :: st) P Q := g_putZ (f := 44) (hc ▸ ⟨RX12, TX12, ffM0 44 (by decide) t_1412, tyM, nmX12, rfl, rfl⟩) (by decide) rfl rfl hz hd k
/-- refused -/
theorem ffM_45 : FF RX12 149 12 45 98 := ⟨RX12, TX12, rfl, by decide, hiM, t_1413⟩
theorem m_g45 (hc : i.1.cls = RX12) (hd : decode i.2.1 pc = .ok (.getfield 149, 3)) (k : Go WSM G d i (pc + 3) ls (vR 28 :: st) P Q) : Go WSM G d i pc ls (vR 0 :: st) P Q := g_getC (f := 45) (hc ▸ ffM_45) (by decide) rfl rfl hd k
/-- gone -/
theorem ffM_46 : FF RX12 152 12 46 98 := ⟨RX12, TX12, rfl, by decide, hiM, t_1414⟩
theorem m_g46 (hc : i.1.cls = RX12) (hd : decode i.2.1 pc = .ok (.getfield 152, 3)) (k : Go WSM G d i (pc + 3) ls (vR 29 :: st) P Q) : Go WSM G d i pc ls (vR 0 :: st) P Q := g_getC (f := 46) (hc ▸ ffM_46) (by decide) rfl rfl hd k
/-- truth -/
theorem ffM_47 : FF RX12 155 12 47 98 := ⟨RX12, TX12, rfl, by decide, hiM, t_1415⟩
theorem m_g47 (hc : i.1.cls = RX12) (hd : decode i.2.1 pc = .ok (.getfield 155, 3)) (k : Go WSM G d i (pc + 3) ls (vR 30 :: st) P Q) : Go WSM G d i pc ls (vR 0 :: st) P Q := g_getC (f := 47) (hc ▸ ffM_47) (by decide) rfl rfl hd k
/-- setOf -/
theorem ffM_48 : FF RX12 158 12 48 98 := ⟨RX12, TX12, rfl, by decide, hiM, t_1416⟩
theorem m_g48 (hc : i.1.cls = RX12) (hd : decode i.2.1 pc = .ok (.getfield 158, 3)) (k : Go WSM G d i (pc + 3) ls (vR 31 :: st) P Q) : Go WSM G d i pc ls (vR 0 :: st) P Q := g_getC (f := 48) (hc ▸ ffM_48) (by decide) rfl rfl hd k
/-- toldSet -/
theorem ffM_49 : FF RX12 161 12 49 98 := ⟨RX12, TX12, rfl, by decide, hiM, t_1417⟩
theorem m_g49 (hc : i.1.cls = RX12) (hd : decode i.2.1 pc = .ok (.getfield 161, 3)) (k : Go WSM G d i (pc + 3) ls (vR 32 :: st) P Q) : Go WSM G d i pc ls (vR 0 :: st) P Q := g_getC (f := 49) (hc ▸ ffM_49) (by decide) rfl rfl hd k
/-- setMany -/
theorem ffM_50 : FF RX12 164 12 50 98 := ⟨RX12, TX12, rfl, by decide, hiM, t_1418⟩
theorem m_g50 (hc : i.1.cls = RX12) (hd : decode i.2.1 pc = .ok (.getfield 164, 3)) (k : Go WSM G d i (pc + 3) ls (vR 33 :: st) P Q) : Go WSM G d i pc ls (vR 0 :: st) P Q := g_getC (f := 50) (hc ▸ ffM_50) (by decide) rfl rfl hd k
/-- setNumber -/
theorem ffM_51 : FF RX12 167 12 51 98 := ⟨RX12, TX12, rfl, by decide, hiM, t_1419⟩
theorem m_g51 (hc : i.1.cls = RX12) (hd : decode i.2.1 pc = .ok (.getfield 167, 3)) (k : Go WSM G d i (pc + 3) ls (vR 34 :: st) P Q) : Go WSM G d i pc ls (vR 0 :: st) P Q := g_getC (f := 51) (hc ▸ ffM_51) (by decide) rfl rfl hd k
/-- rowMany -/
theorem ffM_52 : FF RX12 170 12 52 98 := ⟨RX12, TX12, rfl, by decide, hiM, t_1420⟩
theorem m_g52 {z : Int} (hc : i.1.cls = RX12) (hd : decode i.2.1 pc = .ok (.getfield 170, 3)) (hz : P 0 52 = z) (k : Go WSM G d i (pc + 3) ls (vI z :: st) P Q) : Go WSM G d i pc ls (vR 0 :: st) P Q := by
  subst hz
  exact g_getI (f := 52) (hc ▸ ffM_52) (by decide) rfl rfl hd k
theorem m_p52 {x : Int} (hc : i.1.cls = RX12) (hd : decode i.2.1 pc = .ok (.putfield 170, 3)) (k : Go WSM G d i (pc + 3) ls st (up P 0 52 x) Q) : Go WSM G d i pc ls (vI x :: vR 0 :: st) P Q := g_putI (f := 52) (hc ▸ ⟨RX12, TX12, ffM0 52 (by decide) t_1420, tyM, nmX12, rfl, rfl⟩) (by decide) rfl rfl hd k
/-- armsOf -/
theorem ffM_53 : FF RX12 173 12 53 98 := ⟨RX12, TX12, rfl, by decide, hiM, t_1421⟩
theorem m_g53 (hc : i.1.cls = RX12) (hd : decode i.2.1 pc = .ok (.getfield 173, 3)) (k : Go WSM G d i (pc + 3) ls (vR 35 :: st) P Q) : Go WSM G d i pc ls (vR 0 :: st) P Q := g_getC (f := 53) (hc ▸ ffM_53) (by decide) rfl rfl hd k
/-- orderOf -/
theorem ffM_54 : FF RX12 176 12 54 98 := ⟨RX12, TX12, rfl, by decide, hiM, t_1422⟩
theorem m_g54 (hc : i.1.cls = RX12) (hd : decode i.2.1 pc = .ok (.getfield 176, 3)) (k : Go WSM G d i (pc + 3) ls (vR 36 :: st) P Q) : Go WSM G d i pc ls (vR 0 :: st) P Q := g_getC (f := 54) (hc ▸ ffM_54) (by decide) rfl rfl hd k
/-- guardsOf -/
theorem ffM_55 : FF RX12 179 12 55 98 := ⟨RX12, TX12, rfl, by decide, hiM, t_1423⟩
theorem m_g55 (hc : i.1.cls = RX12) (hd : decode i.2.1 pc = .ok (.getfield 179, 3)) (k : Go WSM G d i (pc + 3) ls (vR 37 :: st) P Q) : Go WSM G d i pc ls (vR 0 :: st) P Q := g_getC (f := 55) (hc ▸ ffM_55) (by decide) rfl rfl hd k
/-- ruleOf -/
theorem ffM_56 : FF RX12 182 12 56 98 := ⟨RX12, TX12, rfl, by decide, hiM, t_1424⟩
theorem m_g56 (hc : i.1.cls = RX12) (hd : decode i.2.1 pc = .ok (.getfield 182, 3)) (k : Go WSM G d i (pc + 3) ls (vR 38 :: st) P Q) : Go WSM G d i pc ls (vR 0 :: st) P Q := g_getC (f := 56) (hc ▸ ffM_56) (by decide) rfl rfl hd k
/-- keptMany -/
theorem ffM_57 : FF RX12 185 12 57 98 := ⟨RX12, TX12, rfl, by decide, hiM, t_1425⟩
theorem m_g57 (hc : i.1.cls = RX12) (hd : decode i.2.1 pc = .ok (.getfield 185, 3)) (k : Go WSM G d i (pc + 3) ls (vR 39 :: st) P Q) : Go WSM G d i pc ls (vR 0 :: st) P Q := g_getC (f := 57) (hc ▸ ffM_57) (by decide) rfl rfl hd k
/-- keptRow -/
theorem ffM_58 : FF RX12 188 12 58 98 := ⟨RX12, TX12, rfl, by decide, hiM, t_1426⟩
theorem m_g58 (hc : i.1.cls = RX12) (hd : decode i.2.1 pc = .ok (.getfield 188, 3)) (k : Go WSM G d i (pc + 3) ls (vR 40 :: st) P Q) : Go WSM G d i pc ls (vR 0 :: st) P Q := g_getC (f := 58) (hc ▸ ffM_58) (by decide) rfl rfl hd k
/-- undoFirst -/
theorem ffM_59 : FF RX12 191 12 59 98 := ⟨RX12, TX12, rfl, by decide, hiM, t_1427⟩
theorem m_g59 {z : Int} (hc : i.1.cls = RX12) (hd : decode i.2.1 pc = .ok (.getfield 191, 3)) (hz : P 0 59 = z) (k : Go WSM G d i (pc + 3) ls (vI z :: st) P Q) : Go WSM G d i pc ls (vR 0 :: st) P Q := by
  subst hz
  exact g_getI (f := 59) (hc ▸ ffM_59) (by decide) rfl rfl hd k
theorem m_p59 {x : Int} (hc : i.1.cls = RX12) (hd : decode i.2.1 pc = .ok (.putfield 191, 3)) (k : Go WSM G d i (pc + 3) ls st (up P 0 59 x) Q) : Go WSM G d i pc ls (vI x :: vR 0 :: st) P Q := g_putI (f := 59) (hc ▸ ⟨RX12, TX12, ffM0 59 (by decide) t_1427, tyM, nmX12, rfl, rfl⟩) (by decide) rfl rfl hd k
/-- undos -/
theorem ffM_60 : FF RX12 194 12 60 98 := ⟨RX12, TX12, rfl, by decide, hiM, t_1428⟩
theorem m_g60 {z : Int} (hc : i.1.cls = RX12) (hd : decode i.2.1 pc = .ok (.getfield 194, 3)) (hz : P 0 60 = z) (k : Go WSM G d i (pc + 3) ls (vI z :: st) P Q) : Go WSM G d i pc ls (vR 0 :: st) P Q := by
  subst hz
  exact g_getI (f := 60) (hc ▸ ffM_60) (by decide) rfl rfl hd k
theorem m_p60 {x : Int} (hc : i.1.cls = RX12) (hd : decode i.2.1 pc = .ok (.putfield 194, 3)) (k : Go WSM G d i (pc + 3) ls st (up P 0 60 x) Q) : Go WSM G d i pc ls (vI x :: vR 0 :: st) P Q := g_putI (f := 60) (hc ▸ ⟨RX12, TX12, ffM0 60 (by decide) t_1428, tyM, nmX12, rfl, rfl⟩) (by decide) rfl rfl hd k
/-- seeds -/
theorem ffM_61 : FF RX12 197 12 61 98 := ⟨RX12, TX12, rfl, by decide, hiM, t_1429⟩
theorem m_g61 {z : Int} (hc : i.1.cls = RX12) (hd : decode i.2.1 pc = .ok (.getfield 197, 3)) (hz : P 0 61 = z) (k : Go WSM G d i (pc + 3) ls (vL z :: st) P Q) : Go WSM G d i pc ls (vR 0 :: st) P Q := by
  subst hz
  exact g_getL (f := 61) (hc ▸ ffM_61) (by decide) rfl rfl hd k
theorem m_p61 {x : Int} (hc : i.1.cls = RX12) (hd : decode i.2.1 pc = .ok (.putfield 197, 3)) (k : Go WSM G d i (pc + 3) ls st (up P 0 61 x) Q) : Go WSM G d i pc ls (vL x :: vR 0 :: st) P Q := g_putL (f := 61) (hc ▸ ⟨RX12, TX12, ffM0 61 (by decide) t_1429, tyM, nmX12, rfl, rfl⟩) (by decide) rfl rfl hd k
/-- places -/
theorem ffM_62 : FF RX12 200 12 62 98 := ⟨RX12, TX12, rfl, by decide, hiM, t_1430⟩
theorem m_g62 {z : Int} (hc : i.1.cls = RX12) (hd : decode i.2.1 pc = .ok (.getfield 200, 3)) (hz : P 0 62 = z) (k : Go WSM G d i (pc + 3) ls (vI z :: st) P Q) : Go WSM G d i pc ls (vR 0 :: st) P Q := by
  subst hz
  exact g_getI (f := 62) (hc ▸ ffM_62) (by decide) rfl rfl hd k
theorem m_p62 {x : Int} (hc : i.1.cls = RX12) (hd : decode i.2.1 pc = .ok (.putfield 200, 3)) (k : Go WSM G d i (pc + 3) ls st (up P 0 62 x) Q) : Go WSM G d i pc ls (vI x :: vR 0 :: st) P Q := g_putI (f := 62) (hc ▸ ⟨RX12, TX12, ffM0 62 (by decide) t_1430, tyM, nmX12, rfl, rfl⟩) (by decide) rfl rfl hd k
/-- placeSet -/
theorem ffM_63 : FF RX12 203 12 63 98 := ⟨RX12, TX12, rfl, by decide, hiM, t_1431⟩
theorem m_g63 (hc : i.1.cls = RX12) (hd : decode i.2.1 pc = .ok (.getfield 203, 3)) (k : Go WSM G d i (pc + 3) ls (vR 41 :: st) P Q) : Go WSM G d i pc ls (vR 0 :: st) P Q := g_getC (f := 63) (hc ▸ ffM_63) (by decide) rfl rfl hd k
/-- fullIn -/
theorem ffM_64 : FF RX12 206 12 64 98 := ⟨RX12, TX12, rfl, by decide, hiM, t_1432⟩
theorem m_g64 (hc : i.1.cls = RX12) (hd : decode i.2.1 pc = .ok (.getfield 206, 3)) (k : Go WSM G d i (pc + 3) ls (vR 42 :: st) P Q) : Go WSM G d i pc ls (vR 0 :: st) P Q := g_getC (f := 64) (hc ▸ ffM_64) (by decide) rfl rfl hd k
/-- guardAt -/
theorem ffM_65 : FF RX12 209 12 65 98 := ⟨RX12, TX12, rfl, by decide, hiM, t_1433⟩
theorem m_g65 (hc : i.1.cls = RX12) (hd : decode i.2.1 pc = .ok (.getfield 209, 3)) (k : Go WSM G d i (pc + 3) ls (vR 43 :: st) P Q) : Go WSM G d i pc ls (vR 0 :: st) P Q := g_getC (f := 65) (hc ▸ ffM_65) (by decide) rfl rfl hd k
/-- unguarded -/
theorem ffM_66 : FF RX12 212 12 66 98 := ⟨RX12, TX12, rfl, by decide, hiM, t_1434⟩
theorem m_g66 {z : Int} (hc : i.1.cls = RX12) (hd : decode i.2.1 pc = .ok (.getfield 212, 3)) (hz : P 0 66 = z) (k : Go WSM G d i (pc + 3) ls (vI z :: st) P Q) : Go WSM G d i pc ls (vR 0 :: st) P Q := by
  subst hz
  exact g_getI (f := 66) (hc ▸ ffM_66) (by decide) rfl rfl hd k
theorem m_p66 {x : Int} (hc : i.1.cls = RX12) (hd : decode i.2.1 pc = .ok (.putfield 212, 3)) (k : Go WSM G d i (pc + 3) ls st (up P 0 66 x) Q) : Go WSM G d i pc ls (vI x :: vR 0 :: st) P Q := g_putI (f := 66) (hc ▸ ⟨RX12, TX12, ffM0 66 (by decide) t_1434, tyM, nmX12, rfl, rfl⟩) (by decide) rfl rfl hd k
/-- valueAt -/
theorem ffM_67 : FF RX12 215 12 67 98 := ⟨RX12, TX12, rfl, by decide, hiM, t_1435⟩
theorem m_g67 (hc : i.1.cls = RX12) (hd : decode i.2.1 pc = .ok (.getfield 215, 3)) (k : Go WSM G d i (pc + 3) ls (vR 44 :: st) P Q) : Go WSM G d i pc ls (vR 0 :: st) P Q := g_getC (f := 67) (hc ▸ ffM_67) (by decide) rfl rfl hd k
/-- manyBy -/
theorem ffM_68 : FF RX12 218 12 68 98 := ⟨RX12, TX12, rfl, by decide, hiM, t_1436⟩
theorem m_g68 (hc : i.1.cls = RX12) (hd : decode i.2.1 pc = .ok (.getfield 218, 3)) (k : Go WSM G d i (pc + 3) ls (vR 45 :: st) P Q) : Go WSM G d i pc ls (vR 0 :: st) P Q := g_getC (f := 68) (hc ▸ ffM_68) (by decide) rfl rfl hd k
/-- out -/
theorem ffM_69 : FF RX12 221 12 69 98 := ⟨RX12, TX12, rfl, by decide, hiM, t_1437⟩
theorem m_g69 (hc : i.1.cls = RX12) (hd : decode i.2.1 pc = .ok (.getfield 221, 3)) (k : Go WSM G d i (pc + 3) ls (vR 46 :: st) P Q) : Go WSM G d i pc ls (vR 0 :: st) P Q := g_getC (f := 69) (hc ▸ ffM_69) (by decide) rfl rfl hd k
/-- outs -/
theorem ffM_70 : FF RX12 224 12 70 98 := ⟨RX12, TX12, rfl, by decide, hiM, t_1438⟩
theorem m_g70 {z : Int} (hc : i.1.cls = RX12) (hd : decode i.2.1 pc = .ok (.getfield 224, 3)) (hz : P 0 70 = z) (k : Go WSM G d i (pc + 3) ls (vI z :: st) P Q) : Go WSM G d i pc ls (vR 0 :: st) P Q := by
  subst hz
  exact g_getI (f := 70) (hc ▸ ffM_70) (by decide) rfl rfl hd k
theorem m_p70 {x : Int} (hc : i.1.cls = RX12) (hd : decode i.2.1 pc = .ok (.putfield 224, 3)) (k : Go WSM G d i (pc + 3) ls st (up P 0 70 x) Q) : Go WSM G d i pc ls (vI x :: vR 0 :: st) P Q := g_putI (f := 70) (hc ▸ ⟨RX12, TX12, ffM0 70 (by decide) t_1438, tyM, nmX12, rfl, rfl⟩) (by decide) rfl rfl hd k
/-- todoKind -/
theorem ffM_71 : FF RX12 227 12 71 98 := ⟨RX12, TX12, rfl, by decide, hiM, t_1439⟩
theorem m_g71 (hc : i.1.cls = RX12) (hd : decode i.2.1 pc = .ok (.getfield 227, 3)) (k : Go WSM G d i (pc + 3) ls (vR 47 :: st) P Q) : Go WSM G d i pc ls (vR 0 :: st) P Q := g_getC (f := 71) (hc ▸ ffM_71) (by decide) rfl rfl hd k
/-- todo -/
theorem ffM_72 : FF RX12 230 12 72 98 := ⟨RX12, TX12, rfl, by decide, hiM, t_1440⟩
theorem m_g72 (hc : i.1.cls = RX12) (hd : decode i.2.1 pc = .ok (.getfield 230, 3)) (k : Go WSM G d i (pc + 3) ls (vR 48 :: st) P Q) : Go WSM G d i pc ls (vR 0 :: st) P Q := g_getC (f := 72) (hc ▸ ffM_72) (by decide) rfl rfl hd k
/-- todos -/
theorem ffM_73 : FF RX12 233 12 73 98 := ⟨RX12, TX12, rfl, by decide, hiM, t_1441⟩
theorem m_g73 {z : Int} (hc : i.1.cls = RX12) (hd : decode i.2.1 pc = .ok (.getfield 233, 3)) (hz : P 0 73 = z) (k : Go WSM G d i (pc + 3) ls (vI z :: st) P Q) : Go WSM G d i pc ls (vR 0 :: st) P Q := by
  subst hz
  exact g_getI (f := 73) (hc ▸ ffM_73) (by decide) rfl rfl hd k
theorem m_p73 {x : Int} (hc : i.1.cls = RX12) (hd : decode i.2.1 pc = .ok (.putfield 233, 3)) (k : Go WSM G d i (pc + 3) ls st (up P 0 73 x) Q) : Go WSM G d i pc ls (vI x :: vR 0 :: st) P Q := g_putI (f := 73) (hc ▸ ⟨RX12, TX12, ffM0 73 (by decide) t_1441, tyM, nmX12, rfl, rfl⟩) (by decide) rfl rfl hd k
/-- stamp -/
theorem ffM_74 : FF RX12 236 12 74 98 := ⟨RX12, TX12, rfl, by decide, hiM, t_1442⟩
theorem m_g74 {z : Int} (hc : i.1.cls = RX12) (hd : decode i.2.1 pc = .ok (.getfield 236, 3)) (hz : P 0 74 = z) (k : Go WSM G d i (pc + 3) ls (vI z :: st) P Q) : Go WSM G d i pc ls (vR 0 :: st) P Q := by
  subst hz
  exact g_getI (f := 74) (hc ▸ ffM_74) (by decide) rfl rfl hd k
theorem m_p74 {x : Int} (hc : i.1.cls = RX12) (hd : decode i.2.1 pc = .ok (.putfield 236, 3)) (k : Go WSM G d i (pc + 3) ls st (up P 0 74 x) Q) : Go WSM G d i pc ls (vI x :: vR 0 :: st) P Q := g_putI (f := 74) (hc ▸ ⟨RX12, TX12, ffM0 74 (by decide) t_1442, tyM, nmX12, rfl, rfl⟩) (by decide) rfl rfl hd k
/-- chosen -/
theorem ffM_75 : FF RX12 240 12 75 98 := ⟨RX12, TX12, rfl, by decide, hiM, t_1443⟩
theorem m_g75 (hc : i.1.cls = RX12) (hd : decode i.2.1 pc = .ok (.getfield 240, 3)) (k : Go WSM G d i (pc + 3) ls (vR 49 :: st) P Q) : Go WSM G d i pc ls (vR 0 :: st) P Q := g_getC (f := 75) (hc ▸ ffM_75) (by decide) rfl rfl hd k
/-- ruleNow -/
theorem ffM_76 : FF RX12 243 12 76 98 := ⟨RX12, TX12, rfl, by decide, hiM, t_1444⟩
theorem m_g76 {z : Int} (hc : i.1.cls = RX12) (hd : decode i.2.1 pc = .ok (.getfield 243, 3)) (hz : P 0 76 = z) (k : Go WSM G d i (pc + 3) ls (vI z :: st) P Q) : Go WSM G d i pc ls (vR 0 :: st) P Q := by
  subst hz
  exact g_getI (f := 76) (hc ▸ ffM_76) (by decide) rfl rfl hd k
theorem m_p76 {x : Int} (hc : i.1.cls = RX12) (hd : decode i.2.1 pc = .ok (.putfield 243, 3)) (k : Go WSM G d i (pc + 3) ls st (up P 0 76 x) Q) : Go WSM G d i pc ls (vI x :: vR 0 :: st) P Q := g_putI (f := 76) (hc ▸ ⟨RX12, TX12, ffM0 76 (by decide) t_1444, tyM, nmX12, rfl, rfl⟩) (by decide) rfl rfl hd k
/-- metBy -/
theorem ffM_77 : FF RX12 246 12 77 98 := ⟨RX12, TX12, rfl, by decide, hiM, t_1445⟩
theorem m_g77 (hc : i.1.cls = RX12) (hd : decode i.2.1 pc = .ok (.getfield 246, 3)) (k : Go WSM G d i (pc + 3) ls (vR 50 :: st) P Q) : Go WSM G d i pc ls (vR 0 :: st) P Q := g_getC (f := 77) (hc ▸ ffM_77) (by decide) rfl rfl hd k
/-- meeting -/
theorem ffM_78 : FF RX12 249 12 78 98 := ⟨RX12, TX12, rfl, by decide, hiM, t_1446⟩
theorem m_g78 {z : Int} (hc : i.1.cls = RX12) (hd : decode i.2.1 pc = .ok (.getfield 249, 3)) (hz : P 0 78 = z) (k : Go WSM G d i (pc + 3) ls (vI z :: st) P Q) : Go WSM G d i pc ls (vR 0 :: st) P Q := by
  subst hz
  exact g_getI (f := 78) (hc ▸ ffM_78) (by decide) rfl rfl hd k
theorem m_p78 {x : Int} (hc : i.1.cls = RX12) (hd : decode i.2.1 pc = .ok (.putfield 249, 3)) (k : Go WSM G d i (pc + 3) ls st (up P 0 78 x) Q) : Go WSM G d i pc ls (vI x :: vR 0 :: st) P Q := g_putI (f := 78) (hc ▸ ⟨RX12, TX12, ffM0 78 (by decide) t_1446, tyM, nmX12, rfl, rfl⟩) (by decide) rfl rfl hd k
/-- reached -/
theorem ffM_79 : FF RX12 252 12 79 98 := ⟨RX12, TX12, rfl, by decide, hiM, t_1447⟩
theorem m_g79 (hc : i.1.cls = RX12) (hd : decode i.2.1 pc = .ok (.getfield 252, 3)) (k : Go WSM G d i (pc + 3) ls (vR 51 :: st) P Q) : Go WSM G d i pc ls (vR 0 :: st) P Q := g_getC (f := 79) (hc ▸ ffM_79) (by decide) rfl rfl hd k
/-- states -/
theorem ffM_80 : FF RX12 255 12 80 98 := ⟨RX12, TX12, rfl, by decide, hiM, t_1448⟩
theorem m_g80 (hc : i.1.cls = RX12) (hd : decode i.2.1 pc = .ok (.getfield 255, 3)) (k : Go WSM G d i (pc + 3) ls (vR 52 :: st) P Q) : Go WSM G d i pc ls (vR 0 :: st) P Q := g_getC (f := 80) (hc ▸ ffM_80) (by decide) rfl rfl hd k
/-- stateMany -/
theorem ffM_81 : FF RX12 258 12 81 98 := ⟨RX12, TX12, rfl, by decide, hiM, t_1449⟩
theorem m_g81 {z : Int} (hc : i.1.cls = RX12) (hd : decode i.2.1 pc = .ok (.getfield 258, 3)) (hz : P 0 81 = z) (k : Go WSM G d i (pc + 3) ls (vI z :: st) P Q) : Go WSM G d i pc ls (vR 0 :: st) P Q := by
  subst hz
  exact g_getI (f := 81) (hc ▸ ffM_81) (by decide) rfl rfl hd k
theorem m_p81 {x : Int} (hc : i.1.cls = RX12) (hd : decode i.2.1 pc = .ok (.putfield 258, 3)) (k : Go WSM G d i (pc + 3) ls st (up P 0 81 x) Q) : Go WSM G d i pc ls (vI x :: vR 0 :: st) P Q := g_putI (f := 81) (hc ▸ ⟨RX12, TX12, ffM0 81 (by decide) t_1449, tyM, nmX12, rfl, rfl⟩) (by decide) rfl rfl hd k
/-- below -/
theorem ffM_82 : FF RX12 261 12 82 98 := ⟨RX12, TX12, rfl, by decide, hiM, t_1450⟩
theorem m_g82 (hc : i.1.cls = RX12) (hd : decode i.2.1 pc = .ok (.getfield 261, 3)) (k : Go WSM G d i (pc + 3) ls (vR 53 :: st) P Q) : Go WSM G d i pc ls (vR 0 :: st) P Q := g_getC (f := 82) (hc ▸ ffM_82) (by decide) rfl rfl hd k
/-- openLeft -/
theorem ffM_83 : FF RX12 264 12 83 98 := ⟨RX12, TX12, rfl, by decide, hiM, t_1451⟩
theorem m_g83 (hc : i.1.cls = RX12) (hd : decode i.2.1 pc = .ok (.getfield 264, 3)) (k : Go WSM G d i (pc + 3) ls (vR 54 :: st) P Q) : Go WSM G d i pc ls (vR 0 :: st) P Q := g_getC (f := 83) (hc ▸ ffM_83) (by decide) rfl rfl hd k
/-- openNext -/
theorem ffM_84 : FF RX12 267 12 84 98 := ⟨RX12, TX12, rfl, by decide, hiM, t_1452⟩
theorem m_g84 (hc : i.1.cls = RX12) (hd : decode i.2.1 pc = .ok (.getfield 267, 3)) (k : Go WSM G d i (pc + 3) ls (vR 55 :: st) P Q) : Go WSM G d i pc ls (vR 0 :: st) P Q := g_getC (f := 84) (hc ▸ ffM_84) (by decide) rfl rfl hd k
/-- openScope -/
theorem ffM_85 : FF RX12 270 12 85 98 := ⟨RX12, TX12, rfl, by decide, hiM, t_1453⟩
theorem m_g85 (hc : i.1.cls = RX12) (hd : decode i.2.1 pc = .ok (.getfield 270, 3)) (k : Go WSM G d i (pc + 3) ls (vR 56 :: st) P Q) : Go WSM G d i pc ls (vR 0 :: st) P Q := g_getC (f := 85) (hc ▸ ffM_85) (by decide) rfl rfl hd k
/-- shut -/
theorem ffM_86 : FF RX12 273 12 86 98 := ⟨RX12, TX12, rfl, by decide, hiM, t_1454⟩
theorem m_g86 (hc : i.1.cls = RX12) (hd : decode i.2.1 pc = .ok (.getfield 273, 3)) (k : Go WSM G d i (pc + 3) ls (vR 57 :: st) P Q) : Go WSM G d i pc ls (vR 0 :: st) P Q := g_getC (f := 86) (hc ▸ ffM_86) (by decide) rfl rfl hd k
/-- scopeMany -/
theorem ffM_87 : FF RX12 276 12 87 98 := ⟨RX12, TX12, rfl, by decide, hiM, t_1455⟩
theorem m_g87 {z : Int} (hc : i.1.cls = RX12) (hd : decode i.2.1 pc = .ok (.getfield 276, 3)) (hz : P 0 87 = z) (k : Go WSM G d i (pc + 3) ls (vI z :: st) P Q) : Go WSM G d i pc ls (vR 0 :: st) P Q := by
  subst hz
  exact g_getI (f := 87) (hc ▸ ffM_87) (by decide) rfl rfl hd k
theorem m_p87 {x : Int} (hc : i.1.cls = RX12) (hd : decode i.2.1 pc = .ok (.putfield 276, 3)) (k : Go WSM G d i (pc + 3) ls st (up P 0 87 x) Q) : Go WSM G d i pc ls (vI x :: vR 0 :: st) P Q := g_putI (f := 87) (hc ▸ ⟨RX12, TX12, ffM0 87 (by decide) t_1455, tyM, nmX12, rfl, rfl⟩) (by decide) rfl rfl hd k
/-- shutMany -/
theorem ffM_88 : FF RX12 279 12 88 98 := ⟨RX12, TX12, rfl, by decide, hiM, t_1456⟩
theorem m_g88 {z : Int} (hc : i.1.cls = RX12) (hd : decode i.2.1 pc = .ok (.getfield 279, 3)) (hz : P 0 88 = z) (k : Go WSM G d i (pc + 3) ls (vI z :: st) P Q) : Go WSM G d i pc ls (vR 0 :: st) P Q := by
  subst hz
  exact g_getI (f := 88) (hc ▸ ffM_88) (by decide) rfl rfl hd k
theorem m_p88 {x : Int} (hc : i.1.cls = RX12) (hd : decode i.2.1 pc = .ok (.putfield 279, 3)) (k : Go WSM G d i (pc + 3) ls st (up P 0 88 x) Q) : Go WSM G d i pc ls (vI x :: vR 0 :: st) P Q := g_putI (f := 88) (hc ▸ ⟨RX12, TX12, ffM0 88 (by decide) t_1456, tyM, nmX12, rfl, rfl⟩) (by decide) rfl rfl hd k
/-- mostOpen -/
theorem ffM_89 : FF RX12 282 12 89 98 := ⟨RX12, TX12, rfl, by decide, hiM, t_1457⟩
theorem m_g89 {z : Int} (hc : i.1.cls = RX12) (hd : decode i.2.1 pc = .ok (.getfield 282, 3)) (hz : P 0 89 = z) (k : Go WSM G d i (pc + 3) ls (vI z :: st) P Q) : Go WSM G d i pc ls (vR 0 :: st) P Q := by
  subst hz
  exact g_getI (f := 89) (hc ▸ ffM_89) (by decide) rfl rfl hd k
theorem m_p89 {x : Int} (hc : i.1.cls = RX12) (hd : decode i.2.1 pc = .ok (.putfield 282, 3)) (k : Go WSM G d i (pc + 3) ls st (up P 0 89 x) Q) : Go WSM G d i pc ls (vI x :: vR 0 :: st) P Q := g_putI (f := 89) (hc ▸ ⟨RX12, TX12, ffM0 89 (by decide) t_1457, tyM, nmX12, rfl, rfl⟩) (by decide) rfl rfl hd k
/-- isStopped -/
theorem ffM_90 : FF RX12 285 12 90 98 := ⟨RX12, TX12, rfl, by decide, hiM, t_1458⟩
theorem m_g90 {z : Int} (hc : i.1.cls = RX12) (hd : decode i.2.1 pc = .ok (.getfield 285, 3)) (hz : P 0 90 = z) (k : Go WSM G d i (pc + 3) ls (vI z :: st) P Q) : Go WSM G d i pc ls (vR 0 :: st) P Q := by
  subst hz
  exact g_getI (f := 90) (hc ▸ ffM_90) (by decide) rfl rfl hd k
theorem m_p90 {x : Int} (hc : i.1.cls = RX12) (hd : decode i.2.1 pc = .ok (.putfield 285, 3)) (hz : x = 0 ∨ x = 1) (k : Go WSM G d i (pc + 3) ls st (up P 0 90 x) Q) : Go WSM G d i pc ls (vI x :: vR 0 :: st) P Q := g_putZ (f := 90) (hc ▸ ⟨RX12, TX12, ffM0 90 (by decide) t_1458, tyM, nmX12, rfl, rfl⟩) (by decide) rfl rfl hz hd k
/-- isFair -/
theorem ffM_91 : FF RX12 288 12 91 98 := ⟨RX12, TX12, rfl, by decide, hiM, t_1459⟩
theorem m_g91 (hc : i.1.cls = RX12) (hd : decode i.2.1 pc = .ok (.getfield 288, 3)) (k : Go WSM G d i (pc + 3) ls (vR 58 :: st) P Q) : Go WSM G d i pc ls (vR 0 :: st) P Q := g_getC (f := 91) (hc ▸ ffM_91) (by decide) rfl rfl hd k
/-- seenMany -/
theorem ffM_92 : FF RX12 291 12 92 98 := ⟨RX12, TX12, rfl, by decide, hiM, t_1460⟩
theorem m_g92 {z : Int} (hc : i.1.cls = RX12) (hd : decode i.2.1 pc = .ok (.getfield 291, 3)) (hz : P 0 92 = z) (k : Go WSM G d i (pc + 3) ls (vI z :: st) P Q) : Go WSM G d i pc ls (vR 0 :: st) P Q := by
  subst hz
  exact g_getI (f := 92) (hc ▸ ffM_92) (by decide) rfl rfl hd k
theorem m_p92 {x : Int} (hc : i.1.cls = RX12) (hd : decode i.2.1 pc = .ok (.putfield 291, 3)) (k : Go WSM G d i (pc + 3) ls st (up P 0 92 x) Q) : Go WSM G d i pc ls (vI x :: vR 0 :: st) P Q := g_putI (f := 92) (hc ▸ ⟨RX12, TX12, ffM0 92 (by decide) t_1460, tyM, nmX12, rfl, rfl⟩) (by decide) rfl rfl hd k
/-- seenRow -/
theorem ffM_93 : FF RX12 294 12 93 98 := ⟨RX12, TX12, rfl, by decide, hiM, t_1461⟩
theorem m_g93 (hc : i.1.cls = RX12) (hd : decode i.2.1 pc = .ok (.getfield 294, 3)) (k : Go WSM G d i (pc + 3) ls (vR 59 :: st) P Q) : Go WSM G d i pc ls (vR 0 :: st) P Q := g_getC (f := 93) (hc ▸ ffM_93) (by decide) rfl rfl hd k
/-- seenArm -/
theorem ffM_94 : FF RX12 297 12 94 98 := ⟨RX12, TX12, rfl, by decide, hiM, t_1462⟩
theorem m_g94 (hc : i.1.cls = RX12) (hd : decode i.2.1 pc = .ok (.getfield 297, 3)) (k : Go WSM G d i (pc + 3) ls (vR 60 :: st) P Q) : Go WSM G d i pc ls (vR 0 :: st) P Q := g_getC (f := 94) (hc ▸ ffM_94) (by decide) rfl rfl hd k
/-- isLeft -/
theorem ffM_95 : FF RX12 300 12 95 98 := ⟨RX12, TX12, rfl, by decide, hiM, t_1463⟩
theorem m_g95 (hc : i.1.cls = RX12) (hd : decode i.2.1 pc = .ok (.getfield 300, 3)) (k : Go WSM G d i (pc + 3) ls (vR 61 :: st) P Q) : Go WSM G d i pc ls (vR 0 :: st) P Q := g_getC (f := 95) (hc ▸ ffM_95) (by decide) rfl rfl hd k
/-- openOf -/
theorem ffM_96 : FF RX12 303 12 96 98 := ⟨RX12, TX12, rfl, by decide, hiM, t_1464⟩
theorem m_g96 (hc : i.1.cls = RX12) (hd : decode i.2.1 pc = .ok (.getfield 303, 3)) (k : Go WSM G d i (pc + 3) ls (vR 62 :: st) P Q) : Go WSM G d i pc ls (vR 0 :: st) P Q := g_getC (f := 96) (hc ▸ ffM_96) (by decide) rfl rfl hd k
/-- manyArm -/
theorem ffM_97 : FF RX12 306 12 97 98 := ⟨RX12, TX12, rfl, by decide, hiM, t_1465⟩
theorem m_g97 (hc : i.1.cls = RX12) (hd : decode i.2.1 pc = .ok (.getfield 306, 3)) (k : Go WSM G d i (pc + 3) ls (vR 63 :: st) P Q) : Go WSM G d i pc ls (vR 0 :: st) P Q := g_getC (f := 97) (hc ▸ ffM_97) (by decide) rfl rfl hd k
/-- tape -/
theorem m_l1 {x z : Int} (hd : decode i.2.1 pc = .ok (.iaload, 1)) (hx : 0 ≤ x ∧ x < 1800) (hz : P 1 x = z) (k : Go WSM G d i (pc + 1) ls (vI z :: st) P Q) : Go WSM G d i pc ls (vI x :: vR 1 :: st) P Q := by
  subst hz
  exact g_iald (o := 1) (n := 1800) (by decide) rfl rfl (by decide) hx hd k
theorem m_s1 {x z : Int} (hd : decode i.2.1 pc = .ok (.iastore, 1)) (hx : 0 ≤ x ∧ x < 1800) (k : Go WSM G d i (pc + 1) ls st (up P 1 x z) Q) : Go WSM G d i pc ls (vI z :: vI x :: vR 1 :: st) P Q := g_iast (o := 1) (n := 1800) (by decide) rfl rfl (by decide) hx hd k
/-- kindMany -/
theorem m_l2 {x z : Int} (hd : decode i.2.1 pc = .ok (.iaload, 1)) (hx : 0 ≤ x ∧ x < 2) (hz : P 2 x = z) (k : Go WSM G d i (pc + 1) ls (vI z :: st) P Q) : Go WSM G d i pc ls (vI x :: vR 2 :: st) P Q := by
  subst hz
  exact g_iald (o := 2) (n := 2) (by decide) rfl rfl (by decide) hx hd k
theorem m_s2 {x z : Int} (hd : decode i.2.1 pc = .ok (.iastore, 1)) (hx : 0 ≤ x ∧ x < 2) (k : Go WSM G d i (pc + 1) ls st (up P 2 x z) Q) : Go WSM G d i pc ls (vI z :: vI x :: vR 2 :: st) P Q := g_iast (o := 2) (n := 2) (by decide) rfl rfl (by decide) hx hd k
/-- kindValues -/
theorem m_l3 {x z : Int} (hd : decode i.2.1 pc = .ok (.iaload, 1)) (hx : 0 ≤ x ∧ x < 10) (hz : P 3 x = z) (k : Go WSM G d i (pc + 1) ls (vI z :: st) P Q) : Go WSM G d i pc ls (vI x :: vR 3 :: st) P Q := by
  subst hz
  exact g_iald (o := 3) (n := 10) (by decide) rfl rfl (by decide) hx hd k
theorem m_s3 {x z : Int} (hd : decode i.2.1 pc = .ok (.iastore, 1)) (hx : 0 ≤ x ∧ x < 10) (k : Go WSM G d i (pc + 1) ls st (up P 3 x z) Q) : Go WSM G d i pc ls (vI z :: vI x :: vR 3 :: st) P Q := g_iast (o := 3) (n := 10) (by decide) rfl rfl (by decide) hx hd k
/-- kindCons -/
theorem m_l4 {x z : Int} (hd : decode i.2.1 pc = .ok (.iaload, 1)) (hx : 0 ≤ x ∧ x < 10) (hz : P 4 x = z) (k : Go WSM G d i (pc + 1) ls (vI z :: st) P Q) : Go WSM G d i pc ls (vI x :: vR 4 :: st) P Q := by
  subst hz
  exact g_iald (o := 4) (n := 10) (by decide) rfl rfl (by decide) hx hd k
theorem m_s4 {x z : Int} (hd : decode i.2.1 pc = .ok (.iastore, 1)) (hx : 0 ≤ x ∧ x < 10) (k : Go WSM G d i (pc + 1) ls st (up P 4 x z) Q) : Go WSM G d i pc ls (vI z :: vI x :: vR 4 :: st) P Q := g_iast (o := 4) (n := 10) (by decide) rfl rfl (by decide) hx hd k
/-- conMany -/
theorem m_l5 {x z : Int} (hd : decode i.2.1 pc = .ok (.iaload, 1)) (hx : 0 ≤ x ∧ x < 2) (hz : P 5 x = z) (k : Go WSM G d i (pc + 1) ls (vI z :: st) P Q) : Go WSM G d i pc ls (vI x :: vR 5 :: st) P Q := by
  subst hz
  exact g_iald (o := 5) (n := 2) (by decide) rfl rfl (by decide) hx hd k
theorem m_s5 {x z : Int} (hd : decode i.2.1 pc = .ok (.iastore, 1)) (hx : 0 ≤ x ∧ x < 2) (k : Go WSM G d i (pc + 1) ls st (up P 5 x z) Q) : Go WSM G d i pc ls (vI z :: vI x :: vR 5 :: st) P Q := g_iast (o := 5) (n := 2) (by decide) rfl rfl (by decide) hx hd k
/-- conKind -/
theorem m_l6 {x z : Int} (hd : decode i.2.1 pc = .ok (.iaload, 1)) (hx : 0 ≤ x ∧ x < 48) (hz : P 6 x = z) (k : Go WSM G d i (pc + 1) ls (vI z :: st) P Q) : Go WSM G d i pc ls (vI x :: vR 6 :: st) P Q := by
  subst hz
  exact g_iald (o := 6) (n := 48) (by decide) rfl rfl (by decide) hx hd k
theorem m_s6 {x z : Int} (hd : decode i.2.1 pc = .ok (.iastore, 1)) (hx : 0 ≤ x ∧ x < 48) (k : Go WSM G d i (pc + 1) ls st (up P 6 x z) Q) : Go WSM G d i pc ls (vI z :: vI x :: vR 6 :: st) P Q := g_iast (o := 6) (n := 48) (by decide) rfl rfl (by decide) hx hd k
/-- conFields -/
theorem m_l7 {x z : Int} (hd : decode i.2.1 pc = .ok (.iaload, 1)) (hx : 0 ≤ x ∧ x < 48) (hz : P 7 x = z) (k : Go WSM G d i (pc + 1) ls (vI z :: st) P Q) : Go WSM G d i pc ls (vI x :: vR 7 :: st) P Q := by
  subst hz
  exact g_iald (o := 7) (n := 48) (by decide) rfl rfl (by decide) hx hd k
theorem m_s7 {x z : Int} (hd : decode i.2.1 pc = .ok (.iastore, 1)) (hx : 0 ≤ x ∧ x < 48) (k : Go WSM G d i (pc + 1) ls st (up P 7 x z) Q) : Go WSM G d i pc ls (vI z :: vI x :: vR 7 :: st) P Q := g_iast (o := 7) (n := 48) (by decide) rfl rfl (by decide) hx hd k
/-- conField -/
theorem m_l8 {x z : Int} (hd : decode i.2.1 pc = .ok (.iaload, 1)) (hx : 0 ≤ x ∧ x < 96) (hz : P 8 x = z) (k : Go WSM G d i (pc + 1) ls (vI z :: st) P Q) : Go WSM G d i pc ls (vI x :: vR 8 :: st) P Q := by
  subst hz
  exact g_iald (o := 8) (n := 96) (by decide) rfl rfl (by decide) hx hd k
theorem m_s8 {x z : Int} (hd : decode i.2.1 pc = .ok (.iastore, 1)) (hx : 0 ≤ x ∧ x < 96) (k : Go WSM G d i (pc + 1) ls st (up P 8 x z) Q) : Go WSM G d i pc ls (vI z :: vI x :: vR 8 :: st) P Q := g_iast (o := 8) (n := 96) (by decide) rfl rfl (by decide) hx hd k
/-- conFrom -/
theorem m_l9 {x z : Int} (hd : decode i.2.1 pc = .ok (.iaload, 1)) (hx : 0 ≤ x ∧ x < 48) (hz : P 9 x = z) (k : Go WSM G d i (pc + 1) ls (vI z :: st) P Q) : Go WSM G d i pc ls (vI x :: vR 9 :: st) P Q := by
  subst hz
  exact g_iald (o := 9) (n := 48) (by decide) rfl rfl (by decide) hx hd k
theorem m_s9 {x z : Int} (hd : decode i.2.1 pc = .ok (.iastore, 1)) (hx : 0 ≤ x ∧ x < 48) (k : Go WSM G d i (pc + 1) ls st (up P 9 x z) Q) : Go WSM G d i pc ls (vI z :: vI x :: vR 9 :: st) P Q := g_iast (o := 9) (n := 48) (by decide) rfl rfl (by decide) hx hd k
/-- conValues -/
theorem m_l10 {x z : Int} (hd : decode i.2.1 pc = .ok (.iaload, 1)) (hx : 0 ≤ x ∧ x < 48) (hz : P 10 x = z) (k : Go WSM G d i (pc + 1) ls (vI z :: st) P Q) : Go WSM G d i pc ls (vI x :: vR 10 :: st) P Q := by
  subst hz
  exact g_iald (o := 10) (n := 48) (by decide) rfl rfl (by decide) hx hd k
theorem m_s10 {x z : Int} (hd : decode i.2.1 pc = .ok (.iastore, 1)) (hx : 0 ≤ x ∧ x < 48) (k : Go WSM G d i (pc + 1) ls st (up P 10 x z) Q) : Go WSM G d i pc ls (vI z :: vI x :: vR 10 :: st) P Q := g_iast (o := 10) (n := 48) (by decide) rfl rfl (by decide) hx hd k
/-- columnMany -/
theorem m_l11 {x z : Int} (hd : decode i.2.1 pc = .ok (.iaload, 1)) (hx : 0 ≤ x ∧ x < 2) (hz : P 11 x = z) (k : Go WSM G d i (pc + 1) ls (vI z :: st) P Q) : Go WSM G d i pc ls (vI x :: vR 11 :: st) P Q := by
  subst hz
  exact g_iald (o := 11) (n := 2) (by decide) rfl rfl (by decide) hx hd k
theorem m_s11 {x z : Int} (hd : decode i.2.1 pc = .ok (.iastore, 1)) (hx : 0 ≤ x ∧ x < 2) (k : Go WSM G d i (pc + 1) ls st (up P 11 x z) Q) : Go WSM G d i pc ls (vI z :: vI x :: vR 11 :: st) P Q := g_iast (o := 11) (n := 2) (by decide) rfl rfl (by decide) hx hd k
/-- columnKind -/
theorem m_l12 {x z : Int} (hd : decode i.2.1 pc = .ok (.iaload, 1)) (hx : 0 ≤ x ∧ x < 8) (hz : P 12 x = z) (k : Go WSM G d i (pc + 1) ls (vI z :: st) P Q) : Go WSM G d i pc ls (vI x :: vR 12 :: st) P Q := by
  subst hz
  exact g_iald (o := 12) (n := 8) (by decide) rfl rfl (by decide) hx hd k
theorem m_s12 {x z : Int} (hd : decode i.2.1 pc = .ok (.iastore, 1)) (hx : 0 ≤ x ∧ x < 8) (k : Go WSM G d i (pc + 1) ls st (up P 12 x z) Q) : Go WSM G d i pc ls (vI z :: vI x :: vR 12 :: st) P Q := g_iast (o := 12) (n := 8) (by decide) rfl rfl (by decide) hx hd k
/-- armMany -/
theorem m_l13 {x z : Int} (hd : decode i.2.1 pc = .ok (.iaload, 1)) (hx : 0 ≤ x ∧ x < 2) (hz : P 13 x = z) (k : Go WSM G d i (pc + 1) ls (vI z :: st) P Q) : Go WSM G d i pc ls (vI x :: vR 13 :: st) P Q := by
  subst hz
  exact g_iald (o := 13) (n := 2) (by decide) rfl rfl (by decide) hx hd k
theorem m_s13 {x z : Int} (hd : decode i.2.1 pc = .ok (.iastore, 1)) (hx : 0 ≤ x ∧ x < 2) (k : Go WSM G d i (pc + 1) ls st (up P 13 x z) Q) : Go WSM G d i pc ls (vI z :: vI x :: vR 13 :: st) P Q := g_iast (o := 13) (n := 2) (by decide) rfl rfl (by decide) hx hd k
/-- armGuard -/
theorem m_l14 {x z : Int} (hd : decode i.2.1 pc = .ok (.iaload, 1)) (hx : 0 ≤ x ∧ x < 24) (hz : P 14 x = z) (k : Go WSM G d i (pc + 1) ls (vI z :: st) P Q) : Go WSM G d i pc ls (vI x :: vR 14 :: st) P Q := by
  subst hz
  exact g_iald (o := 14) (n := 24) (by decide) rfl rfl (by decide) hx hd k
theorem m_s14 {x z : Int} (hd : decode i.2.1 pc = .ok (.iastore, 1)) (hx : 0 ≤ x ∧ x < 24) (k : Go WSM G d i (pc + 1) ls st (up P 14 x z) Q) : Go WSM G d i pc ls (vI z :: vI x :: vR 14 :: st) P Q := g_iast (o := 14) (n := 24) (by decide) rfl rfl (by decide) hx hd k
/-- ruleTold -/
theorem m_l15 {x z : Int} (hd : decode i.2.1 pc = .ok (.iaload, 1)) (hx : 0 ≤ x ∧ x < 2) (hz : P 15 x = z) (k : Go WSM G d i (pc + 1) ls (vI z :: st) P Q) : Go WSM G d i pc ls (vI x :: vR 15 :: st) P Q := by
  subst hz
  exact g_iald (o := 15) (n := 2) (by decide) rfl rfl (by decide) hx hd k
theorem m_s15 {x z : Int} (hd : decode i.2.1 pc = .ok (.iastore, 1)) (hx : 0 ≤ x ∧ x < 2) (k : Go WSM G d i (pc + 1) ls st (up P 15 x z) Q) : Go WSM G d i pc ls (vI z :: vI x :: vR 15 :: st) P Q := g_iast (o := 15) (n := 2) (by decide) rfl rfl (by decide) hx hd k
/-- budgetTold -/
theorem m_l16 {x z : Int} (hd : decode i.2.1 pc = .ok (.iaload, 1)) (hx : 0 ≤ x ∧ x < 2) (hz : P 16 x = z) (k : Go WSM G d i (pc + 1) ls (vI z :: st) P Q) : Go WSM G d i pc ls (vI x :: vR 16 :: st) P Q := by
  subst hz
  exact g_iald (o := 16) (n := 2) (by decide) rfl rfl (by decide) hx hd k
theorem m_s16 {x z : Int} (hd : decode i.2.1 pc = .ok (.iastore, 1)) (hx : 0 ≤ x ∧ x < 2) (k : Go WSM G d i (pc + 1) ls st (up P 16 x z) Q) : Go WSM G d i pc ls (vI z :: vI x :: vR 16 :: st) P Q := g_iast (o := 16) (n := 2) (by decide) rfl rfl (by decide) hx hd k
/-- patFrom -/
theorem m_l17 {x z : Int} (hd : decode i.2.1 pc = .ok (.iaload, 1)) (hx : 0 ≤ x ∧ x < 96) (hz : P 17 x = z) (k : Go WSM G d i (pc + 1) ls (vI z :: st) P Q) : Go WSM G d i pc ls (vI x :: vR 17 :: st) P Q := by
  subst hz
  exact g_iald (o := 17) (n := 96) (by decide) rfl rfl (by decide) hx hd k
theorem m_s17 {x z : Int} (hd : decode i.2.1 pc = .ok (.iastore, 1)) (hx : 0 ≤ x ∧ x < 96) (k : Go WSM G d i (pc + 1) ls st (up P 17 x z) Q) : Go WSM G d i pc ls (vI z :: vI x :: vR 17 :: st) P Q := g_iast (o := 17) (n := 96) (by decide) rfl rfl (by decide) hx hd k
/-- patBehind -/
theorem m_l18 {x z : Int} (hd : decode i.2.1 pc = .ok (.iaload, 1)) (hx : 0 ≤ x ∧ x < 96) (hz : P 18 x = z) (k : Go WSM G d i (pc + 1) ls (vI z :: st) P Q) : Go WSM G d i pc ls (vI x :: vR 18 :: st) P Q := by
  subst hz
  exact g_iald (o := 18) (n := 96) (by decide) rfl rfl (by decide) hx hd k
theorem m_s18 {x z : Int} (hd : decode i.2.1 pc = .ok (.iastore, 1)) (hx : 0 ≤ x ∧ x < 96) (k : Go WSM G d i (pc + 1) ls st (up P 18 x z) Q) : Go WSM G d i pc ls (vI z :: vI x :: vR 18 :: st) P Q := g_iast (o := 18) (n := 96) (by decide) rfl rfl (by decide) hx hd k
/-- codeOp -/
theorem m_l19 {x z : Int} (hd : decode i.2.1 pc = .ok (.iaload, 1)) (hx : 0 ≤ x ∧ x < 5600) (hz : P 19 x = z) (k : Go WSM G d i (pc + 1) ls (vI z :: st) P Q) : Go WSM G d i pc ls (vI x :: vR 19 :: st) P Q := by
  subst hz
  exact g_iald (o := 19) (n := 5600) (by decide) rfl rfl (by decide) hx hd k
theorem m_s19 {x z : Int} (hd : decode i.2.1 pc = .ok (.iastore, 1)) (hx : 0 ≤ x ∧ x < 5600) (k : Go WSM G d i (pc + 1) ls st (up P 19 x z) Q) : Go WSM G d i pc ls (vI z :: vI x :: vR 19 :: st) P Q := g_iast (o := 19) (n := 5600) (by decide) rfl rfl (by decide) hx hd k
/-- codeA -/
theorem m_l20 {x z : Int} (hd : decode i.2.1 pc = .ok (.iaload, 1)) (hx : 0 ≤ x ∧ x < 5600) (hz : P 20 x = z) (k : Go WSM G d i (pc + 1) ls (vI z :: st) P Q) : Go WSM G d i pc ls (vI x :: vR 20 :: st) P Q := by
  subst hz
  exact g_iald (o := 20) (n := 5600) (by decide) rfl rfl (by decide) hx hd k
theorem m_s20 {x z : Int} (hd : decode i.2.1 pc = .ok (.iastore, 1)) (hx : 0 ≤ x ∧ x < 5600) (k : Go WSM G d i (pc + 1) ls st (up P 20 x z) Q) : Go WSM G d i pc ls (vI z :: vI x :: vR 20 :: st) P Q := g_iast (o := 20) (n := 5600) (by decide) rfl rfl (by decide) hx hd k
/-- codeB -/
theorem m_l21 {x z : Int} (hd : decode i.2.1 pc = .ok (.iaload, 1)) (hx : 0 ≤ x ∧ x < 5600) (hz : P 21 x = z) (k : Go WSM G d i (pc + 1) ls (vI z :: st) P Q) : Go WSM G d i pc ls (vI x :: vR 21 :: st) P Q := by
  subst hz
  exact g_iald (o := 21) (n := 5600) (by decide) rfl rfl (by decide) hx hd k
theorem m_s21 {x z : Int} (hd : decode i.2.1 pc = .ok (.iastore, 1)) (hx : 0 ≤ x ∧ x < 5600) (k : Go WSM G d i (pc + 1) ls st (up P 21 x z) Q) : Go WSM G d i pc ls (vI z :: vI x :: vR 21 :: st) P Q := g_iast (o := 21) (n := 5600) (by decide) rfl rfl (by decide) hx hd k
/-- kindName -/
theorem m_l22 {x z : Int} (hd : decode i.2.1 pc = .ok (.laload, 1)) (hx : 0 ≤ x ∧ x < 8) (hz : P 22 x = z) (k : Go WSM G d i (pc + 1) ls (vL z :: st) P Q) : Go WSM G d i pc ls (vI x :: vR 22 :: st) P Q := by
  subst hz
  exact g_lald (o := 22) (n := 8) (by decide) rfl rfl (by decide) hx hd k
theorem m_s22 {x z : Int} (hd : decode i.2.1 pc = .ok (.lastore, 1)) (hx : 0 ≤ x ∧ x < 8) (k : Go WSM G d i (pc + 1) ls st (up P 22 x z) Q) : Go WSM G d i pc ls (vL z :: vI x :: vR 22 :: st) P Q := g_last (o := 22) (n := 8) (by decide) rfl rfl (by decide) hx hd k
/-- conName -/
theorem m_l23 {x z : Int} (hd : decode i.2.1 pc = .ok (.laload, 1)) (hx : 0 ≤ x ∧ x < 48) (hz : P 23 x = z) (k : Go WSM G d i (pc + 1) ls (vL z :: st) P Q) : Go WSM G d i pc ls (vI x :: vR 23 :: st) P Q := by
  subst hz
  exact g_lald (o := 23) (n := 48) (by decide) rfl rfl (by decide) hx hd k
theorem m_s23 {x z : Int} (hd : decode i.2.1 pc = .ok (.lastore, 1)) (hx : 0 ≤ x ∧ x < 48) (k : Go WSM G d i (pc + 1) ls st (up P 23 x z) Q) : Go WSM G d i pc ls (vL z :: vI x :: vR 23 :: st) P Q := g_last (o := 23) (n := 48) (by decide) rfl rfl (by decide) hx hd k
/-- openKind -/
theorem m_l24 {x z : Int} (hd : decode i.2.1 pc = .ok (.iaload, 1)) (hx : 0 ≤ x ∧ x < 10) (hz : P 24 x = z) (k : Go WSM G d i (pc + 1) ls (vI z :: st) P Q) : Go WSM G d i pc ls (vI x :: vR 24 :: st) P Q := by
  subst hz
  exact g_iald (o := 24) (n := 10) (by decide) rfl rfl (by decide) hx hd k
theorem m_s24 {x z : Int} (hd : decode i.2.1 pc = .ok (.iastore, 1)) (hx : 0 ≤ x ∧ x < 10) (k : Go WSM G d i (pc + 1) ls st (up P 24 x z) Q) : Go WSM G d i pc ls (vI z :: vI x :: vR 24 :: st) P Q := g_iast (o := 24) (n := 10) (by decide) rfl rfl (by decide) hx hd k
/-- openAlts -/
theorem m_l25 {x z : Int} (hd : decode i.2.1 pc = .ok (.iaload, 1)) (hx : 0 ≤ x ∧ x < 10) (hz : P 25 x = z) (k : Go WSM G d i (pc + 1) ls (vI z :: st) P Q) : Go WSM G d i pc ls (vI x :: vR 25 :: st) P Q := by
  subst hz
  exact g_iald (o := 25) (n := 10) (by decide) rfl rfl (by decide) hx hd k
theorem m_s25 {x z : Int} (hd : decode i.2.1 pc = .ok (.iastore, 1)) (hx : 0 ≤ x ∧ x < 10) (k : Go WSM G d i (pc + 1) ls st (up P 25 x z) Q) : Go WSM G d i pc ls (vI z :: vI x :: vR 25 :: st) P Q := g_iast (o := 25) (n := 10) (by decide) rfl rfl (by decide) hx hd k
/-- openCon -/
theorem m_l26 {x z : Int} (hd : decode i.2.1 pc = .ok (.iaload, 1)) (hx : 0 ≤ x ∧ x < 10) (hz : P 26 x = z) (k : Go WSM G d i (pc + 1) ls (vI z :: st) P Q) : Go WSM G d i pc ls (vI x :: vR 26 :: st) P Q := by
  subst hz
  exact g_iald (o := 26) (n := 10) (by decide) rfl rfl (by decide) hx hd k
theorem m_s26 {x z : Int} (hd : decode i.2.1 pc = .ok (.iastore, 1)) (hx : 0 ≤ x ∧ x < 10) (k : Go WSM G d i (pc + 1) ls st (up P 26 x z) Q) : Go WSM G d i pc ls (vI z :: vI x :: vR 26 :: st) P Q := g_iast (o := 26) (n := 10) (by decide) rfl rfl (by decide) hx hd k
/-- openField -/
theorem m_l27 {x z : Int} (hd : decode i.2.1 pc = .ok (.iaload, 1)) (hx : 0 ≤ x ∧ x < 10) (hz : P 27 x = z) (k : Go WSM G d i (pc + 1) ls (vI z :: st) P Q) : Go WSM G d i pc ls (vI x :: vR 27 :: st) P Q := by
  subst hz
  exact g_iald (o := 27) (n := 10) (by decide) rfl rfl (by decide) hx hd k
theorem m_s27 {x z : Int} (hd : decode i.2.1 pc = .ok (.iastore, 1)) (hx : 0 ≤ x ∧ x < 10) (k : Go WSM G d i (pc + 1) ls st (up P 27 x z) Q) : Go WSM G d i pc ls (vI z :: vI x :: vR 27 :: st) P Q := g_iast (o := 27) (n := 10) (by decide) rfl rfl (by decide) hx hd k
/-- refused -/
theorem m_l28 {x z : Int} (hd : decode i.2.1 pc = .ok (.iaload, 1)) (hx : 0 ≤ x ∧ x < 6) (hz : P 28 x = z) (k : Go WSM G d i (pc + 1) ls (vI z :: st) P Q) : Go WSM G d i pc ls (vI x :: vR 28 :: st) P Q := by
  subst hz
  exact g_iald (o := 28) (n := 6) (by decide) rfl rfl (by decide) hx hd k
theorem m_s28 {x z : Int} (hd : decode i.2.1 pc = .ok (.iastore, 1)) (hx : 0 ≤ x ∧ x < 6) (k : Go WSM G d i (pc + 1) ls st (up P 28 x z) Q) : Go WSM G d i pc ls (vI z :: vI x :: vR 28 :: st) P Q := g_iast (o := 28) (n := 6) (by decide) rfl rfl (by decide) hx hd k
/-- gone -/
theorem m_l29 {x z : Int} (hd : decode i.2.1 pc = .ok (.iaload, 1)) (hx : 0 ≤ x ∧ x < 12) (hz : P 29 x = z) (k : Go WSM G d i (pc + 1) ls (vI z :: st) P Q) : Go WSM G d i pc ls (vI x :: vR 29 :: st) P Q := by
  subst hz
  exact g_iald (o := 29) (n := 12) (by decide) rfl rfl (by decide) hx hd k
theorem m_s29 {x z : Int} (hd : decode i.2.1 pc = .ok (.iastore, 1)) (hx : 0 ≤ x ∧ x < 12) (k : Go WSM G d i (pc + 1) ls st (up P 29 x z) Q) : Go WSM G d i pc ls (vI z :: vI x :: vR 29 :: st) P Q := g_iast (o := 29) (n := 12) (by decide) rfl rfl (by decide) hx hd k
/-- truth -/
theorem m_l30 {x z : Int} (hd : decode i.2.1 pc = .ok (.iaload, 1)) (hx : 0 ≤ x ∧ x < 900) (hz : P 30 x = z) (k : Go WSM G d i (pc + 1) ls (vI z :: st) P Q) : Go WSM G d i pc ls (vI x :: vR 30 :: st) P Q := by
  subst hz
  exact g_iald (o := 30) (n := 900) (by decide) rfl rfl (by decide) hx hd k
theorem m_s30 {x z : Int} (hd : decode i.2.1 pc = .ok (.iastore, 1)) (hx : 0 ≤ x ∧ x < 900) (k : Go WSM G d i (pc + 1) ls st (up P 30 x z) Q) : Go WSM G d i pc ls (vI z :: vI x :: vR 30 :: st) P Q := g_iast (o := 30) (n := 900) (by decide) rfl rfl (by decide) hx hd k
/-- setOf -/
theorem m_l31 {x z : Int} (hd : decode i.2.1 pc = .ok (.iaload, 1)) (hx : 0 ≤ x ∧ x < 8040) (hz : P 31 x = z) (k : Go WSM G d i (pc + 1) ls (vI z :: st) P Q) : Go WSM G d i pc ls (vI x :: vR 31 :: st) P Q := by
  subst hz
  exact g_iald (o := 31) (n := 8040) (by decide) rfl rfl (by decide) hx hd k
theorem m_s31 {x z : Int} (hd : decode i.2.1 pc = .ok (.iastore, 1)) (hx : 0 ≤ x ∧ x < 8040) (k : Go WSM G d i (pc + 1) ls st (up P 31 x z) Q) : Go WSM G d i pc ls (vI z :: vI x :: vR 31 :: st) P Q := g_iast (o := 31) (n := 8040) (by decide) rfl rfl (by decide) hx hd k
/-- toldSet -/
theorem m_l32 {x z : Int} (hd : decode i.2.1 pc = .ok (.iaload, 1)) (hx : 0 ≤ x ∧ x < 8040) (hz : P 32 x = z) (k : Go WSM G d i (pc + 1) ls (vI z :: st) P Q) : Go WSM G d i pc ls (vI x :: vR 32 :: st) P Q := by
  subst hz
  exact g_iald (o := 32) (n := 8040) (by decide) rfl rfl (by decide) hx hd k
theorem m_s32 {x z : Int} (hd : decode i.2.1 pc = .ok (.iastore, 1)) (hx : 0 ≤ x ∧ x < 8040) (k : Go WSM G d i (pc + 1) ls st (up P 32 x z) Q) : Go WSM G d i pc ls (vI z :: vI x :: vR 32 :: st) P Q := g_iast (o := 32) (n := 8040) (by decide) rfl rfl (by decide) hx hd k
/-- setMany -/
theorem m_l33 {x z : Int} (hd : decode i.2.1 pc = .ok (.iaload, 1)) (hx : 0 ≤ x ∧ x < 4) (hz : P 33 x = z) (k : Go WSM G d i (pc + 1) ls (vI z :: st) P Q) : Go WSM G d i pc ls (vI x :: vR 33 :: st) P Q := by
  subst hz
  exact g_iald (o := 33) (n := 4) (by decide) rfl rfl (by decide) hx hd k
theorem m_s33 {x z : Int} (hd : decode i.2.1 pc = .ok (.iastore, 1)) (hx : 0 ≤ x ∧ x < 4) (k : Go WSM G d i (pc + 1) ls st (up P 33 x z) Q) : Go WSM G d i pc ls (vI z :: vI x :: vR 33 :: st) P Q := g_iast (o := 33) (n := 4) (by decide) rfl rfl (by decide) hx hd k
/-- setNumber -/
theorem m_l34 {x z : Int} (hd : decode i.2.1 pc = .ok (.iaload, 1)) (hx : 0 ≤ x ∧ x < 4096) (hz : P 34 x = z) (k : Go WSM G d i (pc + 1) ls (vI z :: st) P Q) : Go WSM G d i pc ls (vI x :: vR 34 :: st) P Q := by
  subst hz
  exact g_iald (o := 34) (n := 4096) (by decide) rfl rfl (by decide) hx hd k
theorem m_s34 {x z : Int} (hd : decode i.2.1 pc = .ok (.iastore, 1)) (hx : 0 ≤ x ∧ x < 4096) (k : Go WSM G d i (pc + 1) ls st (up P 34 x z) Q) : Go WSM G d i pc ls (vI z :: vI x :: vR 34 :: st) P Q := g_iast (o := 34) (n := 4096) (by decide) rfl rfl (by decide) hx hd k
/-- armsOf -/
theorem m_l35 {x z : Int} (hd : decode i.2.1 pc = .ok (.iaload, 1)) (hx : 0 ≤ x ∧ x < 22) (hz : P 35 x = z) (k : Go WSM G d i (pc + 1) ls (vI z :: st) P Q) : Go WSM G d i pc ls (vI x :: vR 35 :: st) P Q := by
  subst hz
  exact g_iald (o := 35) (n := 22) (by decide) rfl rfl (by decide) hx hd k
theorem m_s35 {x z : Int} (hd : decode i.2.1 pc = .ok (.iastore, 1)) (hx : 0 ≤ x ∧ x < 22) (k : Go WSM G d i (pc + 1) ls st (up P 35 x z) Q) : Go WSM G d i pc ls (vI z :: vI x :: vR 35 :: st) P Q := g_iast (o := 35) (n := 22) (by decide) rfl rfl (by decide) hx hd k
/-- orderOf -/
theorem m_l36 {x z : Int} (hd : decode i.2.1 pc = .ok (.iaload, 1)) (hx : 0 ≤ x ∧ x < 264) (hz : P 36 x = z) (k : Go WSM G d i (pc + 1) ls (vI z :: st) P Q) : Go WSM G d i pc ls (vI x :: vR 36 :: st) P Q := by
  subst hz
  exact g_iald (o := 36) (n := 264) (by decide) rfl rfl (by decide) hx hd k
theorem m_s36 {x z : Int} (hd : decode i.2.1 pc = .ok (.iastore, 1)) (hx : 0 ≤ x ∧ x < 264) (k : Go WSM G d i (pc + 1) ls st (up P 36 x z) Q) : Go WSM G d i pc ls (vI z :: vI x :: vR 36 :: st) P Q := g_iast (o := 36) (n := 264) (by decide) rfl rfl (by decide) hx hd k
/-- guardsOf -/
theorem m_l37 {x z : Int} (hd : decode i.2.1 pc = .ok (.iaload, 1)) (hx : 0 ≤ x ∧ x < 22) (hz : P 37 x = z) (k : Go WSM G d i (pc + 1) ls (vI z :: st) P Q) : Go WSM G d i pc ls (vI x :: vR 37 :: st) P Q := by
  subst hz
  exact g_iald (o := 37) (n := 22) (by decide) rfl rfl (by decide) hx hd k
theorem m_s37 {x z : Int} (hd : decode i.2.1 pc = .ok (.iastore, 1)) (hx : 0 ≤ x ∧ x < 22) (k : Go WSM G d i (pc + 1) ls st (up P 37 x z) Q) : Go WSM G d i pc ls (vI z :: vI x :: vR 37 :: st) P Q := g_iast (o := 37) (n := 22) (by decide) rfl rfl (by decide) hx hd k
/-- ruleOf -/
theorem m_l38 {x z : Int} (hd : decode i.2.1 pc = .ok (.iaload, 1)) (hx : 0 ≤ x ∧ x < 22) (hz : P 38 x = z) (k : Go WSM G d i (pc + 1) ls (vI z :: st) P Q) : Go WSM G d i pc ls (vI x :: vR 38 :: st) P Q := by
  subst hz
  exact g_iald (o := 38) (n := 22) (by decide) rfl rfl (by decide) hx hd k
theorem m_s38 {x z : Int} (hd : decode i.2.1 pc = .ok (.iastore, 1)) (hx : 0 ≤ x ∧ x < 22) (k : Go WSM G d i (pc + 1) ls st (up P 38 x z) Q) : Go WSM G d i pc ls (vI z :: vI x :: vR 38 :: st) P Q := g_iast (o := 38) (n := 22) (by decide) rfl rfl (by decide) hx hd k
/-- keptMany -/
theorem m_l39 {x z : Int} (hd : decode i.2.1 pc = .ok (.iaload, 1)) (hx : 0 ≤ x ∧ x < 22) (hz : P 39 x = z) (k : Go WSM G d i (pc + 1) ls (vI z :: st) P Q) : Go WSM G d i pc ls (vI x :: vR 39 :: st) P Q := by
  subst hz
  exact g_iald (o := 39) (n := 22) (by decide) rfl rfl (by decide) hx hd k
theorem m_s39 {x z : Int} (hd : decode i.2.1 pc = .ok (.iastore, 1)) (hx : 0 ≤ x ∧ x < 22) (k : Go WSM G d i (pc + 1) ls st (up P 39 x z) Q) : Go WSM G d i pc ls (vI z :: vI x :: vR 39 :: st) P Q := g_iast (o := 39) (n := 22) (by decide) rfl rfl (by decide) hx hd k
/-- keptRow -/
theorem m_l40 {x z : Int} (hd : decode i.2.1 pc = .ok (.iaload, 1)) (hx : 0 ≤ x ∧ x < 2640) (hz : P 40 x = z) (k : Go WSM G d i (pc + 1) ls (vI z :: st) P Q) : Go WSM G d i pc ls (vI x :: vR 40 :: st) P Q := by
  subst hz
  exact g_iald (o := 40) (n := 2640) (by decide) rfl rfl (by decide) hx hd k
theorem m_s40 {x z : Int} (hd : decode i.2.1 pc = .ok (.iastore, 1)) (hx : 0 ≤ x ∧ x < 2640) (k : Go WSM G d i (pc + 1) ls st (up P 40 x z) Q) : Go WSM G d i pc ls (vI z :: vI x :: vR 40 :: st) P Q := g_iast (o := 40) (n := 2640) (by decide) rfl rfl (by decide) hx hd k
/-- placeSet -/
theorem m_l41 {x z : Int} (hd : decode i.2.1 pc = .ok (.iaload, 1)) (hx : 0 ≤ x ∧ x < 8040) (hz : P 41 x = z) (k : Go WSM G d i (pc + 1) ls (vI z :: st) P Q) : Go WSM G d i pc ls (vI x :: vR 41 :: st) P Q := by
  subst hz
  exact g_iald (o := 41) (n := 8040) (by decide) rfl rfl (by decide) hx hd k
theorem m_s41 {x z : Int} (hd : decode i.2.1 pc = .ok (.iastore, 1)) (hx : 0 ≤ x ∧ x < 8040) (k : Go WSM G d i (pc + 1) ls st (up P 41 x z) Q) : Go WSM G d i pc ls (vI z :: vI x :: vR 41 :: st) P Q := g_iast (o := 41) (n := 8040) (by decide) rfl rfl (by decide) hx hd k
/-- fullIn -/
theorem m_l42 {x z : Int} (hd : decode i.2.1 pc = .ok (.iaload, 1)) (hx : 0 ≤ x ∧ x < 4) (hz : P 42 x = z) (k : Go WSM G d i (pc + 1) ls (vI z :: st) P Q) : Go WSM G d i pc ls (vI x :: vR 42 :: st) P Q := by
  subst hz
  exact g_iald (o := 42) (n := 4) (by decide) rfl rfl (by decide) hx hd k
theorem m_s42 {x z : Int} (hd : decode i.2.1 pc = .ok (.iastore, 1)) (hx : 0 ≤ x ∧ x < 4) (k : Go WSM G d i (pc + 1) ls st (up P 42 x z) Q) : Go WSM G d i pc ls (vI z :: vI x :: vR 42 :: st) P Q := g_iast (o := 42) (n := 4) (by decide) rfl rfl (by decide) hx hd k
/-- guardAt -/
theorem m_l43 {x z : Int} (hd : decode i.2.1 pc = .ok (.iaload, 1)) (hx : 0 ≤ x ∧ x < 12) (hz : P 43 x = z) (k : Go WSM G d i (pc + 1) ls (vI z :: st) P Q) : Go WSM G d i pc ls (vI x :: vR 43 :: st) P Q := by
  subst hz
  exact g_iald (o := 43) (n := 12) (by decide) rfl rfl (by decide) hx hd k
theorem m_s43 {x z : Int} (hd : decode i.2.1 pc = .ok (.iastore, 1)) (hx : 0 ≤ x ∧ x < 12) (k : Go WSM G d i (pc + 1) ls st (up P 43 x z) Q) : Go WSM G d i pc ls (vI z :: vI x :: vR 43 :: st) P Q := g_iast (o := 43) (n := 12) (by decide) rfl rfl (by decide) hx hd k
/-- valueAt -/
theorem m_l44 {x z : Int} (hd : decode i.2.1 pc = .ok (.iaload, 1)) (hx : 0 ≤ x ∧ x < 4) (hz : P 44 x = z) (k : Go WSM G d i (pc + 1) ls (vI z :: st) P Q) : Go WSM G d i pc ls (vI x :: vR 44 :: st) P Q := by
  subst hz
  exact g_iald (o := 44) (n := 4) (by decide) rfl rfl (by decide) hx hd k
theorem m_s44 {x z : Int} (hd : decode i.2.1 pc = .ok (.iastore, 1)) (hx : 0 ≤ x ∧ x < 4) (k : Go WSM G d i (pc + 1) ls st (up P 44 x z) Q) : Go WSM G d i pc ls (vI z :: vI x :: vR 44 :: st) P Q := g_iast (o := 44) (n := 4) (by decide) rfl rfl (by decide) hx hd k
/-- manyBy -/
theorem m_l45 {x z : Int} (hd : decode i.2.1 pc = .ok (.iaload, 1)) (hx : 0 ≤ x ∧ x < 4096) (hz : P 45 x = z) (k : Go WSM G d i (pc + 1) ls (vI z :: st) P Q) : Go WSM G d i pc ls (vI x :: vR 45 :: st) P Q := by
  subst hz
  exact g_iald (o := 45) (n := 4096) (by decide) rfl rfl (by decide) hx hd k
theorem m_s45 {x z : Int} (hd : decode i.2.1 pc = .ok (.iastore, 1)) (hx : 0 ≤ x ∧ x < 4096) (k : Go WSM G d i (pc + 1) ls st (up P 45 x z) Q) : Go WSM G d i pc ls (vI z :: vI x :: vR 45 :: st) P Q := g_iast (o := 45) (n := 4096) (by decide) rfl rfl (by decide) hx hd k
/-- out -/
theorem m_l46 {x z : Int} (hd : decode i.2.1 pc = .ok (.iaload, 1)) (hx : 0 ≤ x ∧ x < 1800) (hz : P 46 x = z) (k : Go WSM G d i (pc + 1) ls (vI z :: st) P Q) : Go WSM G d i pc ls (vI x :: vR 46 :: st) P Q := by
  subst hz
  exact g_iald (o := 46) (n := 1800) (by decide) rfl rfl (by decide) hx hd k
theorem m_s46 {x z : Int} (hd : decode i.2.1 pc = .ok (.iastore, 1)) (hx : 0 ≤ x ∧ x < 1800) (k : Go WSM G d i (pc + 1) ls st (up P 46 x z) Q) : Go WSM G d i pc ls (vI z :: vI x :: vR 46 :: st) P Q := g_iast (o := 46) (n := 1800) (by decide) rfl rfl (by decide) hx hd k
/-- todoKind -/
theorem m_l47 {x z : Int} (hd : decode i.2.1 pc = .ok (.iaload, 1)) (hx : 0 ≤ x ∧ x < 40) (hz : P 47 x = z) (k : Go WSM G d i (pc + 1) ls (vI z :: st) P Q) : Go WSM G d i pc ls (vI x :: vR 47 :: st) P Q := by
  subst hz
  exact g_iald (o := 47) (n := 40) (by decide) rfl rfl (by decide) hx hd k
theorem m_s47 {x z : Int} (hd : decode i.2.1 pc = .ok (.iastore, 1)) (hx : 0 ≤ x ∧ x < 40) (k : Go WSM G d i (pc + 1) ls st (up P 47 x z) Q) : Go WSM G d i pc ls (vI z :: vI x :: vR 47 :: st) P Q := g_iast (o := 47) (n := 40) (by decide) rfl rfl (by decide) hx hd k
/-- todo -/
theorem m_l48 {x z : Int} (hd : decode i.2.1 pc = .ok (.iaload, 1)) (hx : 0 ≤ x ∧ x < 40) (hz : P 48 x = z) (k : Go WSM G d i (pc + 1) ls (vI z :: st) P Q) : Go WSM G d i pc ls (vI x :: vR 48 :: st) P Q := by
  subst hz
  exact g_iald (o := 48) (n := 40) (by decide) rfl rfl (by decide) hx hd k
theorem m_s48 {x z : Int} (hd : decode i.2.1 pc = .ok (.iastore, 1)) (hx : 0 ≤ x ∧ x < 40) (k : Go WSM G d i (pc + 1) ls st (up P 48 x z) Q) : Go WSM G d i pc ls (vI z :: vI x :: vR 48 :: st) P Q := g_iast (o := 48) (n := 40) (by decide) rfl rfl (by decide) hx hd k
/-- chosen -/
theorem m_l49 {x z : Int} (hd : decode i.2.1 pc = .ok (.iaload, 1)) (hx : 0 ≤ x ∧ x < 65536) (hz : P 49 x = z) (k : Go WSM G d i (pc + 1) ls (vI z :: st) P Q) : Go WSM G d i pc ls (vI x :: vR 49 :: st) P Q := by
  subst hz
  exact g_iald (o := 49) (n := 65536) (by decide) rfl rfl (by decide) hx hd k
theorem m_s49 {x z : Int} (hd : decode i.2.1 pc = .ok (.iastore, 1)) (hx : 0 ≤ x ∧ x < 65536) (k : Go WSM G d i (pc + 1) ls st (up P 49 x z) Q) : Go WSM G d i pc ls (vI z :: vI x :: vR 49 :: st) P Q := g_iast (o := 49) (n := 65536) (by decide) rfl rfl (by decide) hx hd k
/-- metBy -/
theorem m_l50 {x z : Int} (hd : decode i.2.1 pc = .ok (.iaload, 1)) (hx : 0 ≤ x ∧ x < 4096) (hz : P 50 x = z) (k : Go WSM G d i (pc + 1) ls (vI z :: st) P Q) : Go WSM G d i pc ls (vI x :: vR 50 :: st) P Q := by
  subst hz
  exact g_iald (o := 50) (n := 4096) (by decide) rfl rfl (by decide) hx hd k
theorem m_s50 {x z : Int} (hd : decode i.2.1 pc = .ok (.iastore, 1)) (hx : 0 ≤ x ∧ x < 4096) (k : Go WSM G d i (pc + 1) ls st (up P 50 x z) Q) : Go WSM G d i pc ls (vI z :: vI x :: vR 50 :: st) P Q := g_iast (o := 50) (n := 4096) (by decide) rfl rfl (by decide) hx hd k
/-- reached -/
theorem m_l51 {x z : Int} (hd : decode i.2.1 pc = .ok (.iaload, 1)) (hx : 0 ≤ x ∧ x < 65536) (hz : P 51 x = z) (k : Go WSM G d i (pc + 1) ls (vI z :: st) P Q) : Go WSM G d i pc ls (vI x :: vR 51 :: st) P Q := by
  subst hz
  exact g_iald (o := 51) (n := 65536) (by decide) rfl rfl (by decide) hx hd k
theorem m_s51 {x z : Int} (hd : decode i.2.1 pc = .ok (.iastore, 1)) (hx : 0 ≤ x ∧ x < 65536) (k : Go WSM G d i (pc + 1) ls st (up P 51 x z) Q) : Go WSM G d i pc ls (vI z :: vI x :: vR 51 :: st) P Q := g_iast (o := 51) (n := 65536) (by decide) rfl rfl (by decide) hx hd k
/-- states -/
theorem m_l52 {x z : Int} (hd : decode i.2.1 pc = .ok (.iaload, 1)) (hx : 0 ≤ x ∧ x < 65536) (hz : P 52 x = z) (k : Go WSM G d i (pc + 1) ls (vI z :: st) P Q) : Go WSM G d i pc ls (vI x :: vR 52 :: st) P Q := by
  subst hz
  exact g_iald (o := 52) (n := 65536) (by decide) rfl rfl (by decide) hx hd k
theorem m_s52 {x z : Int} (hd : decode i.2.1 pc = .ok (.iastore, 1)) (hx : 0 ≤ x ∧ x < 65536) (k : Go WSM G d i (pc + 1) ls st (up P 52 x z) Q) : Go WSM G d i pc ls (vI z :: vI x :: vR 52 :: st) P Q := g_iast (o := 52) (n := 65536) (by decide) rfl rfl (by decide) hx hd k
/-- below -/
theorem m_l53 {x z : Int} (hd : decode i.2.1 pc = .ok (.iaload, 1)) (hx : 0 ≤ x ∧ x < 65536) (hz : P 53 x = z) (k : Go WSM G d i (pc + 1) ls (vI z :: st) P Q) : Go WSM G d i pc ls (vI x :: vR 53 :: st) P Q := by
  subst hz
  exact g_iald (o := 53) (n := 65536) (by decide) rfl rfl (by decide) hx hd k
theorem m_s53 {x z : Int} (hd : decode i.2.1 pc = .ok (.iastore, 1)) (hx : 0 ≤ x ∧ x < 65536) (k : Go WSM G d i (pc + 1) ls st (up P 53 x z) Q) : Go WSM G d i pc ls (vI z :: vI x :: vR 53 :: st) P Q := g_iast (o := 53) (n := 65536) (by decide) rfl rfl (by decide) hx hd k
/-- openLeft -/
theorem m_l54 {x z : Int} (hd : decode i.2.1 pc = .ok (.iaload, 1)) (hx : 0 ≤ x ∧ x < 40) (hz : P 54 x = z) (k : Go WSM G d i (pc + 1) ls (vI z :: st) P Q) : Go WSM G d i pc ls (vI x :: vR 54 :: st) P Q := by
  subst hz
  exact g_iald (o := 54) (n := 40) (by decide) rfl rfl (by decide) hx hd k
theorem m_s54 {x z : Int} (hd : decode i.2.1 pc = .ok (.iastore, 1)) (hx : 0 ≤ x ∧ x < 40) (k : Go WSM G d i (pc + 1) ls st (up P 54 x z) Q) : Go WSM G d i pc ls (vI z :: vI x :: vR 54 :: st) P Q := g_iast (o := 54) (n := 40) (by decide) rfl rfl (by decide) hx hd k
/-- openNext -/
theorem m_l55 {x z : Int} (hd : decode i.2.1 pc = .ok (.iaload, 1)) (hx : 0 ≤ x ∧ x < 40) (hz : P 55 x = z) (k : Go WSM G d i (pc + 1) ls (vI z :: st) P Q) : Go WSM G d i pc ls (vI x :: vR 55 :: st) P Q := by
  subst hz
  exact g_iald (o := 55) (n := 40) (by decide) rfl rfl (by decide) hx hd k
theorem m_s55 {x z : Int} (hd : decode i.2.1 pc = .ok (.iastore, 1)) (hx : 0 ≤ x ∧ x < 40) (k : Go WSM G d i (pc + 1) ls st (up P 55 x z) Q) : Go WSM G d i pc ls (vI z :: vI x :: vR 55 :: st) P Q := g_iast (o := 55) (n := 40) (by decide) rfl rfl (by decide) hx hd k
/-- openScope -/
theorem m_l56 {x z : Int} (hd : decode i.2.1 pc = .ok (.iaload, 1)) (hx : 0 ≤ x ∧ x < 40) (hz : P 56 x = z) (k : Go WSM G d i (pc + 1) ls (vI z :: st) P Q) : Go WSM G d i pc ls (vI x :: vR 56 :: st) P Q := by
  subst hz
  exact g_iald (o := 56) (n := 40) (by decide) rfl rfl (by decide) hx hd k
theorem m_s56 {x z : Int} (hd : decode i.2.1 pc = .ok (.iastore, 1)) (hx : 0 ≤ x ∧ x < 40) (k : Go WSM G d i (pc + 1) ls st (up P 56 x z) Q) : Go WSM G d i pc ls (vI z :: vI x :: vR 56 :: st) P Q := g_iast (o := 56) (n := 40) (by decide) rfl rfl (by decide) hx hd k
/-- shut -/
theorem m_l57 {x z : Int} (hd : decode i.2.1 pc = .ok (.iaload, 1)) (hx : 0 ≤ x ∧ x < 1000) (hz : P 57 x = z) (k : Go WSM G d i (pc + 1) ls (vI z :: st) P Q) : Go WSM G d i pc ls (vI x :: vR 57 :: st) P Q := by
  subst hz
  exact g_iald (o := 57) (n := 1000) (by decide) rfl rfl (by decide) hx hd k
theorem m_s57 {x z : Int} (hd : decode i.2.1 pc = .ok (.iastore, 1)) (hx : 0 ≤ x ∧ x < 1000) (k : Go WSM G d i (pc + 1) ls st (up P 57 x z) Q) : Go WSM G d i pc ls (vI z :: vI x :: vR 57 :: st) P Q := g_iast (o := 57) (n := 1000) (by decide) rfl rfl (by decide) hx hd k
/-- isFair -/
theorem m_l58 {x z : Int} (hd : decode i.2.1 pc = .ok (.iaload, 1)) (hx : 0 ≤ x ∧ x < 12) (hz : P 58 x = z) (k : Go WSM G d i (pc + 1) ls (vI z :: st) P Q) : Go WSM G d i pc ls (vI x :: vR 58 :: st) P Q := by
  subst hz
  exact g_iald (o := 58) (n := 12) (by decide) rfl rfl (by decide) hx hd k
theorem m_s58 {x z : Int} (hd : decode i.2.1 pc = .ok (.iastore, 1)) (hx : 0 ≤ x ∧ x < 12) (k : Go WSM G d i (pc + 1) ls st (up P 58 x z) Q) : Go WSM G d i pc ls (vI z :: vI x :: vR 58 :: st) P Q := g_iast (o := 58) (n := 12) (by decide) rfl rfl (by decide) hx hd k
/-- seenRow -/
theorem m_l59 {x z : Int} (hd : decode i.2.1 pc = .ok (.iaload, 1)) (hx : 0 ≤ x ∧ x < 16) (hz : P 59 x = z) (k : Go WSM G d i (pc + 1) ls (vI z :: st) P Q) : Go WSM G d i pc ls (vI x :: vR 59 :: st) P Q := by
  subst hz
  exact g_iald (o := 59) (n := 16) (by decide) rfl rfl (by decide) hx hd k
theorem m_s59 {x z : Int} (hd : decode i.2.1 pc = .ok (.iastore, 1)) (hx : 0 ≤ x ∧ x < 16) (k : Go WSM G d i (pc + 1) ls st (up P 59 x z) Q) : Go WSM G d i pc ls (vI z :: vI x :: vR 59 :: st) P Q := g_iast (o := 59) (n := 16) (by decide) rfl rfl (by decide) hx hd k
/-- seenArm -/
theorem m_l60 {x z : Int} (hd : decode i.2.1 pc = .ok (.iaload, 1)) (hx : 0 ≤ x ∧ x < 16) (hz : P 60 x = z) (k : Go WSM G d i (pc + 1) ls (vI z :: st) P Q) : Go WSM G d i pc ls (vI x :: vR 60 :: st) P Q := by
  subst hz
  exact g_iald (o := 60) (n := 16) (by decide) rfl rfl (by decide) hx hd k
theorem m_s60 {x z : Int} (hd : decode i.2.1 pc = .ok (.iastore, 1)) (hx : 0 ≤ x ∧ x < 16) (k : Go WSM G d i (pc + 1) ls st (up P 60 x z) Q) : Go WSM G d i pc ls (vI z :: vI x :: vR 60 :: st) P Q := g_iast (o := 60) (n := 16) (by decide) rfl rfl (by decide) hx hd k
/-- isLeft -/
theorem m_l61 {x z : Int} (hd : decode i.2.1 pc = .ok (.iaload, 1)) (hx : 0 ≤ x ∧ x < 256) (hz : P 61 x = z) (k : Go WSM G d i (pc + 1) ls (vI z :: st) P Q) : Go WSM G d i pc ls (vI x :: vR 61 :: st) P Q := by
  subst hz
  exact g_iald (o := 61) (n := 256) (by decide) rfl rfl (by decide) hx hd k
theorem m_s61 {x z : Int} (hd : decode i.2.1 pc = .ok (.iastore, 1)) (hx : 0 ≤ x ∧ x < 256) (k : Go WSM G d i (pc + 1) ls st (up P 61 x z) Q) : Go WSM G d i pc ls (vI z :: vI x :: vR 61 :: st) P Q := g_iast (o := 61) (n := 256) (by decide) rfl rfl (by decide) hx hd k
/-- openOf -/
theorem m_l62 {x z : Int} (hd : decode i.2.1 pc = .ok (.iaload, 1)) (hx : 0 ≤ x ∧ x < 256) (hz : P 62 x = z) (k : Go WSM G d i (pc + 1) ls (vI z :: st) P Q) : Go WSM G d i pc ls (vI x :: vR 62 :: st) P Q := by
  subst hz
  exact g_iald (o := 62) (n := 256) (by decide) rfl rfl (by decide) hx hd k
theorem m_s62 {x z : Int} (hd : decode i.2.1 pc = .ok (.iastore, 1)) (hx : 0 ≤ x ∧ x < 256) (k : Go WSM G d i (pc + 1) ls st (up P 62 x z) Q) : Go WSM G d i pc ls (vI z :: vI x :: vR 62 :: st) P Q := g_iast (o := 62) (n := 256) (by decide) rfl rfl (by decide) hx hd k
/-- manyArm -/
theorem m_l63 {x z : Int} (hd : decode i.2.1 pc = .ok (.iaload, 1)) (hx : 0 ≤ x ∧ x < 13) (hz : P 63 x = z) (k : Go WSM G d i (pc + 1) ls (vI z :: st) P Q) : Go WSM G d i pc ls (vI x :: vR 63 :: st) P Q := by
  subst hz
  exact g_iald (o := 63) (n := 13) (by decide) rfl rfl (by decide) hx hd k
theorem m_s63 {x z : Int} (hd : decode i.2.1 pc = .ok (.iastore, 1)) (hx : 0 ≤ x ∧ x < 13) (k : Go WSM G d i (pc + 1) ls st (up P 63 x z) Q) : Go WSM G d i pc ls (vI z :: vI x :: vR 63 :: st) P Q := g_iast (o := 63) (n := 13) (by decide) rfl rfl (by decide) hx hd k
end MR
/-! The bounds that hold in the reference at every moment. -/
def lo0 : Nat → Int := fun k => match k with
  | 1 => 0
  | 2 => 0
  | 3 => 0
  | 4 => 0
  | 5 => 0
  | 6 => -2147483648
  | 7 => -9223372036854775808
  | 8 => 0
  | 9 => -1
  | 10 => 0
  | 11 => -1
  | 12 => -1
  | 13 => 0
  | 36 => 0
  | 37 => 0
  | 38 => 0
  | 43 => 0
  | 44 => 0
  | 52 => 0
  | 59 => 0
  | 60 => 0
  | 61 => 0
  | 62 => 0
  | 66 => 0
  | 70 => 0
  | 73 => 0
  | 74 => 0
  | 76 => -2147483648
  | 78 => -2147483648
  | 81 => 0
  | 87 => 0
  | 88 => 0
  | 89 => -2147483648
  | 90 => 0
  | 92 => 0
  | _ => 0
def hi0 : Nat → Int := fun k => match k with
  | 1 => 1600
  | 2 => 1600
  | 3 => 3
  | 4 => 1600
  | 5 => 1600
  | 6 => 2147483647
  | 7 => 9223372036854775807
  | 8 => 6
  | 9 => 1600
  | 10 => 6
  | 11 => 1600
  | 12 => 1600
  | 13 => 1
  | 36 => 2800
  | 37 => 1
  | 38 => 1
  | 43 => 9
  | 44 => 1
  | 52 => 20000
  | 59 => 19
  | 60 => 20
  | 61 => 2147483647
  | 62 => 12
  | 66 => 4095
  | 70 => 1800
  | 73 => 40
  | 74 => 200000000
  | 76 => 2147483647
  | 78 => 2147483647
  | 81 => 65536
  | 87 => 1000
  | 88 => 1000
  | 89 => 2147483647
  | 90 => 1
  | 92 => 16
  | _ => 0
def loA : Nat → Int := fun k => match k with
  | 1 => 0
  | 2 => 0
  | 3 => 0
  | 4 => 0
  | 5 => 0
  | 6 => 0
  | 7 => 0
  | 8 => 0
  | 9 => 0
  | 10 => 0
  | 11 => 0
  | 12 => 0
  | 13 => 0
  | 14 => -2147483648
  | 15 => -2147483648
  | 16 => -2147483648
  | 17 => 0
  | 18 => 0
  | 19 => 0
  | 20 => 0
  | 21 => 0
  | 22 => -9223372036854775808
  | 23 => -9223372036854775808
  | 24 => 0
  | 25 => -2147483648
  | 26 => 0
  | 27 => 0
  | 28 => -2147483648
  | 29 => -2147483648
  | 30 => 0
  | 31 => 0
  | 32 => 0
  | 33 => 0
  | 34 => -1
  | 35 => 0
  | 36 => 0
  | 37 => 0
  | 38 => -2147483648
  | 39 => 0
  | 40 => -2147483648
  | 41 => 0
  | 42 => 0
  | 43 => -2147483648
  | 44 => 0
  | 45 => -2147483648
  | 46 => 0
  | 47 => 0
  | 48 => -2147483648
  | 49 => -2147483648
  | 50 => -2147483648
  | 51 => -2147483648
  | 52 => 0
  | 53 => -2147483648
  | 54 => 0
  | 55 => -2147483648
  | 56 => -2147483648
  | 57 => -2147483648
  | 58 => 0
  | 59 => 0
  | 60 => -2147483648
  | 61 => 0
  | 62 => -2147483648
  | 63 => -2147483648
  | _ => 0
def hiA : Nat → Int := fun k => match k with
  | 1 => 255
  | 2 => 4
  | 3 => 2006
  | 4 => 6
  | 5 => 24
  | 6 => 3
  | 7 => 2
  | 8 => 4
  | 9 => 2006
  | 10 => 5000000
  | 11 => 4
  | 12 => 4
  | 13 => 12
  | 14 => 2147483647
  | 15 => 2147483647
  | 16 => 2147483647
  | 17 => 2800
  | 18 => 2800
  | 19 => 6
  | 20 => 23
  | 21 => 19
  | 22 => 9223372036854775807
  | 23 => 9223372036854775807
  | 24 => 4
  | 25 => 2147483647
  | 26 => 23
  | 27 => 1
  | 28 => 2147483647
  | 29 => 2147483647
  | 30 => 1
  | 31 => 2009
  | 32 => 4095
  | 33 => 2009
  | 34 => 2009
  | 35 => 12
  | 36 => 11
  | 37 => 255
  | 38 => 2147483647
  | 39 => 40
  | 40 => 2147483647
  | 41 => 4095
  | 42 => 4095
  | 43 => 2147483647
  | 44 => 2009
  | 45 => 2147483647
  | 46 => 255
  | 47 => 5
  | 48 => 2147483647
  | 49 => 2147483647
  | 50 => 2147483647
  | 51 => 2147483647
  | 52 => 65535
  | 53 => 2147483647
  | 54 => 65535
  | 55 => 2147483647
  | 56 => 2147483647
  | 57 => 2147483647
  | 58 => 1
  | 59 => 65535
  | 60 => 2147483647
  | 61 => 1
  | 62 => 2147483647
  | 63 => 2147483647
  | _ => 0
def BdM (P : PH) : Prop := (∀ j : Nat, j < 98 → ftM0 j ≠ 3 → lo0 j ≤ P 0 (j : Int) ∧ P 0 (j : Int) ≤ hi0 j) ∧ ∀ o : Nat, 0 < o → o < 64 → ∀ k : Int, loA o ≤ P o k ∧ P o k ≤ hiA o
theorem bsM {P : PH} {z : Int} (k : Nat) (h : BdM P) (hz : lo0 k ≤ z ∧ z ≤ hi0 k) : BdM (up P 0 (k : Int) z) := by
  refine ⟨fun j hj ht => ?_, fun o ho hn q => ?_⟩
  · by_cases e : j = k
    · subst e; rw [up_same]; exact hz
    · rw [up_k (fun q => e (by omega))]; exact h.1 j hj ht
  · rw [up_o (by omega)]; exact h.2 o ho hn q
theorem baM {P : PH} {k z : Int} (a : Nat) (ha : 0 < a) (h : BdM P) (hz : loA a ≤ z ∧ z ≤ hiA a) : BdM (up P a k z) := by
  refine ⟨fun j hj ht => ?_, fun o ho hn q => ?_⟩
  · rw [up_o (by omega)]; exact h.1 j hj ht
  · by_cases e : o = a
    · subst e
      by_cases e2 : q = k
      · subst e2; rw [up_same]; exact hz
      · rw [up_k e2]; exact h.2 o ho hn q
    · rw [up_o e]; exact h.2 o ho hn q
/-- what a method leaves: fields but these, arrays but these -/
abbrev FS : Type := List Int × List Nat
def FrM (F : FS) (P P1 : PH) : Prop := (∀ k : Int, F.1.contains k = false → P1 0 k = P 0 k) ∧ ∀ o : Nat, (o == 0) = false → F.2.contains o = false → P1 o = P o
theorem FrM.rf {F : FS} {P : PH} : FrM F P P := ⟨fun _ _ => rfl, fun _ _ _ => rfl⟩
theorem FrM.s {F : FS} {P P1 : PH} {k z : Int} (h : FrM F P P1) (hk : F.1.contains k = true) : FrM F P (up P1 0 k z) := by
  refine ⟨fun j hj => ?_, fun o h0 ho => ?_⟩
  · rw [up_k (fun e => by rw [e, hk] at hj; cases hj)]; exact h.1 j hj
  · rw [up_row (fun e => by rw [e] at h0; cases h0)]; exact h.2 o h0 ho
theorem FrM.a {F : FS} {P P1 : PH} {a : Nat} {k z : Int} (h : FrM F P P1) (ha : F.2.contains a = true) (h0 : (a == 0) = false) : FrM F P (up P1 a k z) := by
  refine ⟨fun j hj => ?_, fun o ho hn => ?_⟩
  · rw [up_o (fun e => by rw [← e] at h0; cases h0)]; exact h.1 j hj
  · rw [up_row (fun e => by rw [e, ha] at hn; cases hn)]; exact h.2 o ho hn
def subF (F1 F2 : FS) : Bool := F1.1.all (F2.1.contains ·) && F1.2.all (F2.2.contains ·)
theorem nsub {α : Type} [BEq α] [LawfulBEq α] {l1 l2 : List α} (h : l1.all (l2.contains ·) = true) {x : α} (hx : l2.contains x = false) : l1.contains x = false := by
  cases h1 : l1.contains x with
  | false => rfl
  | true =>
    have h2 := List.all_eq_true.mp h x (List.contains_iff_mem.mp h1)
    rw [hx] at h2
    cases h2
theorem FrM.mono {F1 F2 : FS} {P P1 : PH} (h : FrM F1 P P1) (hs : subF F1 F2 = true) : FrM F2 P P1 := by
  unfold subF at hs
  rw [Bool.and_eq_true] at hs
  exact ⟨fun k hk => h.1 k (nsub hs.1 hk), fun o h0 ho => h.2 o h0 (nsub hs.2 ho)⟩
theorem FrM.c {F1 F2 : FS} {P P1 P2 : PH} (h : FrM F2 P P1) (hc : FrM F1 P1 P2) (hs : subF F1 F2 = true) : FrM F2 P P2 := by
  have hc := hc.mono hs
  exact ⟨fun k hk => (hc.1 k hk).trans (h.1 k hk), fun o h0 ho => (hc.2 o h0 ho).trans (h.2 o h0 ho)⟩
theorem b0_1 {P : PH} (h : BdM P) : 0 ≤ P 0 1 ∧ P 0 1 ≤ 1600 := h.1 1 (by decide) (by decide)
theorem bs_1 {P : PH} {z : Int} (h : BdM P) (hz : 0 ≤ z ∧ z ≤ 1600) : BdM (up P 0 1 z) := bsM 1 h hz
theorem b0_2 {P : PH} (h : BdM P) : 0 ≤ P 0 2 ∧ P 0 2 ≤ 1600 := h.1 2 (by decide) (by decide)
theorem bs_2 {P : PH} {z : Int} (h : BdM P) (hz : 0 ≤ z ∧ z ≤ 1600) : BdM (up P 0 2 z) := bsM 2 h hz
theorem b0_3 {P : PH} (h : BdM P) : 0 ≤ P 0 3 ∧ P 0 3 ≤ 3 := h.1 3 (by decide) (by decide)
theorem bs_3 {P : PH} {z : Int} (h : BdM P) (hz : 0 ≤ z ∧ z ≤ 3) : BdM (up P 0 3 z) := bsM 3 h hz
theorem b0_4 {P : PH} (h : BdM P) : 0 ≤ P 0 4 ∧ P 0 4 ≤ 1600 := h.1 4 (by decide) (by decide)
theorem bs_4 {P : PH} {z : Int} (h : BdM P) (hz : 0 ≤ z ∧ z ≤ 1600) : BdM (up P 0 4 z) := bsM 4 h hz
theorem b0_5 {P : PH} (h : BdM P) : 0 ≤ P 0 5 ∧ P 0 5 ≤ 1600 := h.1 5 (by decide) (by decide)
theorem bs_5 {P : PH} {z : Int} (h : BdM P) (hz : 0 ≤ z ∧ z ≤ 1600) : BdM (up P 0 5 z) := bsM 5 h hz
theorem b0_6 {P : PH} (h : BdM P) : (-2147483648) ≤ P 0 6 ∧ P 0 6 ≤ 2147483647 := h.1 6 (by decide) (by decide)
theorem bs_6 {P : PH} {z : Int} (h : BdM P) (hz : (-2147483648) ≤ z ∧ z ≤ 2147483647) : BdM (up P 0 6 z) := bsM 6 h hz
theorem b0_7 {P : PH} (h : BdM P) : (-9223372036854775808) ≤ P 0 7 ∧ P 0 7 ≤ 9223372036854775807 := h.1 7 (by decide) (by decide)
theorem bs_7 {P : PH} {z : Int} (h : BdM P) (hz : (-9223372036854775808) ≤ z ∧ z ≤ 9223372036854775807) : BdM (up P 0 7 z) := bsM 7 h hz
theorem b0_8 {P : PH} (h : BdM P) : 0 ≤ P 0 8 ∧ P 0 8 ≤ 6 := h.1 8 (by decide) (by decide)
theorem bs_8 {P : PH} {z : Int} (h : BdM P) (hz : 0 ≤ z ∧ z ≤ 6) : BdM (up P 0 8 z) := bsM 8 h hz
theorem b0_9 {P : PH} (h : BdM P) : (-1) ≤ P 0 9 ∧ P 0 9 ≤ 1600 := h.1 9 (by decide) (by decide)
theorem bs_9 {P : PH} {z : Int} (h : BdM P) (hz : (-1) ≤ z ∧ z ≤ 1600) : BdM (up P 0 9 z) := bsM 9 h hz
theorem b0_10 {P : PH} (h : BdM P) : 0 ≤ P 0 10 ∧ P 0 10 ≤ 6 := h.1 10 (by decide) (by decide)
theorem bs_10 {P : PH} {z : Int} (h : BdM P) (hz : 0 ≤ z ∧ z ≤ 6) : BdM (up P 0 10 z) := bsM 10 h hz
theorem b0_11 {P : PH} (h : BdM P) : (-1) ≤ P 0 11 ∧ P 0 11 ≤ 1600 := h.1 11 (by decide) (by decide)
theorem bs_11 {P : PH} {z : Int} (h : BdM P) (hz : (-1) ≤ z ∧ z ≤ 1600) : BdM (up P 0 11 z) := bsM 11 h hz
theorem b0_12 {P : PH} (h : BdM P) : (-1) ≤ P 0 12 ∧ P 0 12 ≤ 1600 := h.1 12 (by decide) (by decide)
theorem bs_12 {P : PH} {z : Int} (h : BdM P) (hz : (-1) ≤ z ∧ z ≤ 1600) : BdM (up P 0 12 z) := bsM 12 h hz
theorem b0_13 {P : PH} (h : BdM P) : 0 ≤ P 0 13 ∧ P 0 13 ≤ 1 := h.1 13 (by decide) (by decide)
theorem bs_13 {P : PH} {z : Int} (h : BdM P) (hz : 0 ≤ z ∧ z ≤ 1) : BdM (up P 0 13 z) := bsM 13 h hz
theorem b0_36 {P : PH} (h : BdM P) : 0 ≤ P 0 36 ∧ P 0 36 ≤ 2800 := h.1 36 (by decide) (by decide)
theorem bs_36 {P : PH} {z : Int} (h : BdM P) (hz : 0 ≤ z ∧ z ≤ 2800) : BdM (up P 0 36 z) := bsM 36 h hz
theorem b0_37 {P : PH} (h : BdM P) : 0 ≤ P 0 37 ∧ P 0 37 ≤ 1 := h.1 37 (by decide) (by decide)
theorem bs_37 {P : PH} {z : Int} (h : BdM P) (hz : 0 ≤ z ∧ z ≤ 1) : BdM (up P 0 37 z) := bsM 37 h hz
theorem b0_38 {P : PH} (h : BdM P) : 0 ≤ P 0 38 ∧ P 0 38 ≤ 1 := h.1 38 (by decide) (by decide)
theorem bs_38 {P : PH} {z : Int} (h : BdM P) (hz : 0 ≤ z ∧ z ≤ 1) : BdM (up P 0 38 z) := bsM 38 h hz
theorem b0_43 {P : PH} (h : BdM P) : 0 ≤ P 0 43 ∧ P 0 43 ≤ 9 := h.1 43 (by decide) (by decide)
theorem bs_43 {P : PH} {z : Int} (h : BdM P) (hz : 0 ≤ z ∧ z ≤ 9) : BdM (up P 0 43 z) := bsM 43 h hz
theorem b0_44 {P : PH} (h : BdM P) : 0 ≤ P 0 44 ∧ P 0 44 ≤ 1 := h.1 44 (by decide) (by decide)
theorem bs_44 {P : PH} {z : Int} (h : BdM P) (hz : 0 ≤ z ∧ z ≤ 1) : BdM (up P 0 44 z) := bsM 44 h hz
theorem b0_52 {P : PH} (h : BdM P) : 0 ≤ P 0 52 ∧ P 0 52 ≤ 20000 := h.1 52 (by decide) (by decide)
theorem bs_52 {P : PH} {z : Int} (h : BdM P) (hz : 0 ≤ z ∧ z ≤ 20000) : BdM (up P 0 52 z) := bsM 52 h hz
theorem b0_59 {P : PH} (h : BdM P) : 0 ≤ P 0 59 ∧ P 0 59 ≤ 19 := h.1 59 (by decide) (by decide)
theorem bs_59 {P : PH} {z : Int} (h : BdM P) (hz : 0 ≤ z ∧ z ≤ 19) : BdM (up P 0 59 z) := bsM 59 h hz
theorem b0_60 {P : PH} (h : BdM P) : 0 ≤ P 0 60 ∧ P 0 60 ≤ 20 := h.1 60 (by decide) (by decide)
theorem bs_60 {P : PH} {z : Int} (h : BdM P) (hz : 0 ≤ z ∧ z ≤ 20) : BdM (up P 0 60 z) := bsM 60 h hz
theorem b0_61 {P : PH} (h : BdM P) : 0 ≤ P 0 61 ∧ P 0 61 ≤ 2147483647 := h.1 61 (by decide) (by decide)
theorem bs_61 {P : PH} {z : Int} (h : BdM P) (hz : 0 ≤ z ∧ z ≤ 2147483647) : BdM (up P 0 61 z) := bsM 61 h hz
theorem b0_62 {P : PH} (h : BdM P) : 0 ≤ P 0 62 ∧ P 0 62 ≤ 12 := h.1 62 (by decide) (by decide)
theorem bs_62 {P : PH} {z : Int} (h : BdM P) (hz : 0 ≤ z ∧ z ≤ 12) : BdM (up P 0 62 z) := bsM 62 h hz
theorem b0_66 {P : PH} (h : BdM P) : 0 ≤ P 0 66 ∧ P 0 66 ≤ 4095 := h.1 66 (by decide) (by decide)
theorem bs_66 {P : PH} {z : Int} (h : BdM P) (hz : 0 ≤ z ∧ z ≤ 4095) : BdM (up P 0 66 z) := bsM 66 h hz
theorem b0_70 {P : PH} (h : BdM P) : 0 ≤ P 0 70 ∧ P 0 70 ≤ 1800 := h.1 70 (by decide) (by decide)
theorem bs_70 {P : PH} {z : Int} (h : BdM P) (hz : 0 ≤ z ∧ z ≤ 1800) : BdM (up P 0 70 z) := bsM 70 h hz
theorem b0_73 {P : PH} (h : BdM P) : 0 ≤ P 0 73 ∧ P 0 73 ≤ 40 := h.1 73 (by decide) (by decide)
theorem bs_73 {P : PH} {z : Int} (h : BdM P) (hz : 0 ≤ z ∧ z ≤ 40) : BdM (up P 0 73 z) := bsM 73 h hz
theorem b0_74 {P : PH} (h : BdM P) : 0 ≤ P 0 74 ∧ P 0 74 ≤ 200000000 := h.1 74 (by decide) (by decide)
theorem bs_74 {P : PH} {z : Int} (h : BdM P) (hz : 0 ≤ z ∧ z ≤ 200000000) : BdM (up P 0 74 z) := bsM 74 h hz
theorem b0_76 {P : PH} (h : BdM P) : (-2147483648) ≤ P 0 76 ∧ P 0 76 ≤ 2147483647 := h.1 76 (by decide) (by decide)
theorem bs_76 {P : PH} {z : Int} (h : BdM P) (hz : (-2147483648) ≤ z ∧ z ≤ 2147483647) : BdM (up P 0 76 z) := bsM 76 h hz
theorem b0_78 {P : PH} (h : BdM P) : (-2147483648) ≤ P 0 78 ∧ P 0 78 ≤ 2147483647 := h.1 78 (by decide) (by decide)
theorem bs_78 {P : PH} {z : Int} (h : BdM P) (hz : (-2147483648) ≤ z ∧ z ≤ 2147483647) : BdM (up P 0 78 z) := bsM 78 h hz
theorem b0_81 {P : PH} (h : BdM P) : 0 ≤ P 0 81 ∧ P 0 81 ≤ 65536 := h.1 81 (by decide) (by decide)
theorem bs_81 {P : PH} {z : Int} (h : BdM P) (hz : 0 ≤ z ∧ z ≤ 65536) : BdM (up P 0 81 z) := bsM 81 h hz
theorem b0_87 {P : PH} (h : BdM P) : 0 ≤ P 0 87 ∧ P 0 87 ≤ 1000 := h.1 87 (by decide) (by decide)
theorem bs_87 {P : PH} {z : Int} (h : BdM P) (hz : 0 ≤ z ∧ z ≤ 1000) : BdM (up P 0 87 z) := bsM 87 h hz
theorem b0_88 {P : PH} (h : BdM P) : 0 ≤ P 0 88 ∧ P 0 88 ≤ 1000 := h.1 88 (by decide) (by decide)
theorem bs_88 {P : PH} {z : Int} (h : BdM P) (hz : 0 ≤ z ∧ z ≤ 1000) : BdM (up P 0 88 z) := bsM 88 h hz
theorem b0_89 {P : PH} (h : BdM P) : (-2147483648) ≤ P 0 89 ∧ P 0 89 ≤ 2147483647 := h.1 89 (by decide) (by decide)
theorem bs_89 {P : PH} {z : Int} (h : BdM P) (hz : (-2147483648) ≤ z ∧ z ≤ 2147483647) : BdM (up P 0 89 z) := bsM 89 h hz
theorem b0_90 {P : PH} (h : BdM P) : 0 ≤ P 0 90 ∧ P 0 90 ≤ 1 := h.1 90 (by decide) (by decide)
theorem bs_90 {P : PH} {z : Int} (h : BdM P) (hz : 0 ≤ z ∧ z ≤ 1) : BdM (up P 0 90 z) := bsM 90 h hz
theorem b0_92 {P : PH} (h : BdM P) : 0 ≤ P 0 92 ∧ P 0 92 ≤ 16 := h.1 92 (by decide) (by decide)
theorem bs_92 {P : PH} {z : Int} (h : BdM P) (hz : 0 ≤ z ∧ z ≤ 16) : BdM (up P 0 92 z) := bsM 92 h hz
theorem bl_1 {P : PH} {k : Int} (h : BdM P) : 0 ≤ P 1 k ∧ P 1 k ≤ 255 := h.2 1 (by decide) (by decide) k
theorem ba_1 {P : PH} {k z : Int} (h : BdM P) (hz : 0 ≤ z ∧ z ≤ 255) : BdM (up P 1 k z) := baM 1 (by decide) h hz
theorem bl_2 {P : PH} {k : Int} (h : BdM P) : 0 ≤ P 2 k ∧ P 2 k ≤ 4 := h.2 2 (by decide) (by decide) k
theorem ba_2 {P : PH} {k z : Int} (h : BdM P) (hz : 0 ≤ z ∧ z ≤ 4) : BdM (up P 2 k z) := baM 2 (by decide) h hz
theorem bl_3 {P : PH} {k : Int} (h : BdM P) : 0 ≤ P 3 k ∧ P 3 k ≤ 2006 := h.2 3 (by decide) (by decide) k
theorem ba_3 {P : PH} {k z : Int} (h : BdM P) (hz : 0 ≤ z ∧ z ≤ 2006) : BdM (up P 3 k z) := baM 3 (by decide) h hz
theorem bl_4 {P : PH} {k : Int} (h : BdM P) : 0 ≤ P 4 k ∧ P 4 k ≤ 6 := h.2 4 (by decide) (by decide) k
theorem ba_4 {P : PH} {k z : Int} (h : BdM P) (hz : 0 ≤ z ∧ z ≤ 6) : BdM (up P 4 k z) := baM 4 (by decide) h hz
theorem bl_5 {P : PH} {k : Int} (h : BdM P) : 0 ≤ P 5 k ∧ P 5 k ≤ 24 := h.2 5 (by decide) (by decide) k
theorem ba_5 {P : PH} {k z : Int} (h : BdM P) (hz : 0 ≤ z ∧ z ≤ 24) : BdM (up P 5 k z) := baM 5 (by decide) h hz
theorem bl_6 {P : PH} {k : Int} (h : BdM P) : 0 ≤ P 6 k ∧ P 6 k ≤ 3 := h.2 6 (by decide) (by decide) k
theorem ba_6 {P : PH} {k z : Int} (h : BdM P) (hz : 0 ≤ z ∧ z ≤ 3) : BdM (up P 6 k z) := baM 6 (by decide) h hz
theorem bl_7 {P : PH} {k : Int} (h : BdM P) : 0 ≤ P 7 k ∧ P 7 k ≤ 2 := h.2 7 (by decide) (by decide) k
theorem ba_7 {P : PH} {k z : Int} (h : BdM P) (hz : 0 ≤ z ∧ z ≤ 2) : BdM (up P 7 k z) := baM 7 (by decide) h hz
theorem bl_8 {P : PH} {k : Int} (h : BdM P) : 0 ≤ P 8 k ∧ P 8 k ≤ 4 := h.2 8 (by decide) (by decide) k
theorem ba_8 {P : PH} {k z : Int} (h : BdM P) (hz : 0 ≤ z ∧ z ≤ 4) : BdM (up P 8 k z) := baM 8 (by decide) h hz
theorem bl_9 {P : PH} {k : Int} (h : BdM P) : 0 ≤ P 9 k ∧ P 9 k ≤ 2006 := h.2 9 (by decide) (by decide) k
theorem ba_9 {P : PH} {k z : Int} (h : BdM P) (hz : 0 ≤ z ∧ z ≤ 2006) : BdM (up P 9 k z) := baM 9 (by decide) h hz
theorem bl_10 {P : PH} {k : Int} (h : BdM P) : 0 ≤ P 10 k ∧ P 10 k ≤ 5000000 := h.2 10 (by decide) (by decide) k
theorem ba_10 {P : PH} {k z : Int} (h : BdM P) (hz : 0 ≤ z ∧ z ≤ 5000000) : BdM (up P 10 k z) := baM 10 (by decide) h hz
theorem bl_11 {P : PH} {k : Int} (h : BdM P) : 0 ≤ P 11 k ∧ P 11 k ≤ 4 := h.2 11 (by decide) (by decide) k
theorem ba_11 {P : PH} {k z : Int} (h : BdM P) (hz : 0 ≤ z ∧ z ≤ 4) : BdM (up P 11 k z) := baM 11 (by decide) h hz
theorem bl_12 {P : PH} {k : Int} (h : BdM P) : 0 ≤ P 12 k ∧ P 12 k ≤ 4 := h.2 12 (by decide) (by decide) k
theorem ba_12 {P : PH} {k z : Int} (h : BdM P) (hz : 0 ≤ z ∧ z ≤ 4) : BdM (up P 12 k z) := baM 12 (by decide) h hz
theorem bl_13 {P : PH} {k : Int} (h : BdM P) : 0 ≤ P 13 k ∧ P 13 k ≤ 12 := h.2 13 (by decide) (by decide) k
theorem ba_13 {P : PH} {k z : Int} (h : BdM P) (hz : 0 ≤ z ∧ z ≤ 12) : BdM (up P 13 k z) := baM 13 (by decide) h hz
theorem bl_14 {P : PH} {k : Int} (h : BdM P) : (-2147483648) ≤ P 14 k ∧ P 14 k ≤ 2147483647 := h.2 14 (by decide) (by decide) k
theorem ba_14 {P : PH} {k z : Int} (h : BdM P) (hz : (-2147483648) ≤ z ∧ z ≤ 2147483647) : BdM (up P 14 k z) := baM 14 (by decide) h hz
theorem bl_15 {P : PH} {k : Int} (h : BdM P) : (-2147483648) ≤ P 15 k ∧ P 15 k ≤ 2147483647 := h.2 15 (by decide) (by decide) k
theorem ba_15 {P : PH} {k z : Int} (h : BdM P) (hz : (-2147483648) ≤ z ∧ z ≤ 2147483647) : BdM (up P 15 k z) := baM 15 (by decide) h hz
theorem bl_16 {P : PH} {k : Int} (h : BdM P) : (-2147483648) ≤ P 16 k ∧ P 16 k ≤ 2147483647 := h.2 16 (by decide) (by decide) k
theorem ba_16 {P : PH} {k z : Int} (h : BdM P) (hz : (-2147483648) ≤ z ∧ z ≤ 2147483647) : BdM (up P 16 k z) := baM 16 (by decide) h hz
theorem bl_17 {P : PH} {k : Int} (h : BdM P) : 0 ≤ P 17 k ∧ P 17 k ≤ 2800 := h.2 17 (by decide) (by decide) k
theorem ba_17 {P : PH} {k z : Int} (h : BdM P) (hz : 0 ≤ z ∧ z ≤ 2800) : BdM (up P 17 k z) := baM 17 (by decide) h hz
theorem bl_18 {P : PH} {k : Int} (h : BdM P) : 0 ≤ P 18 k ∧ P 18 k ≤ 2800 := h.2 18 (by decide) (by decide) k
theorem ba_18 {P : PH} {k z : Int} (h : BdM P) (hz : 0 ≤ z ∧ z ≤ 2800) : BdM (up P 18 k z) := baM 18 (by decide) h hz
theorem bl_19 {P : PH} {k : Int} (h : BdM P) : 0 ≤ P 19 k ∧ P 19 k ≤ 6 := h.2 19 (by decide) (by decide) k
theorem ba_19 {P : PH} {k z : Int} (h : BdM P) (hz : 0 ≤ z ∧ z ≤ 6) : BdM (up P 19 k z) := baM 19 (by decide) h hz
theorem bl_20 {P : PH} {k : Int} (h : BdM P) : 0 ≤ P 20 k ∧ P 20 k ≤ 23 := h.2 20 (by decide) (by decide) k
theorem ba_20 {P : PH} {k z : Int} (h : BdM P) (hz : 0 ≤ z ∧ z ≤ 23) : BdM (up P 20 k z) := baM 20 (by decide) h hz
theorem bl_21 {P : PH} {k : Int} (h : BdM P) : 0 ≤ P 21 k ∧ P 21 k ≤ 19 := h.2 21 (by decide) (by decide) k
theorem ba_21 {P : PH} {k z : Int} (h : BdM P) (hz : 0 ≤ z ∧ z ≤ 19) : BdM (up P 21 k z) := baM 21 (by decide) h hz
theorem bl_22 {P : PH} {k : Int} (h : BdM P) : (-9223372036854775808) ≤ P 22 k ∧ P 22 k ≤ 9223372036854775807 := h.2 22 (by decide) (by decide) k
theorem ba_22 {P : PH} {k z : Int} (h : BdM P) (hz : (-9223372036854775808) ≤ z ∧ z ≤ 9223372036854775807) : BdM (up P 22 k z) := baM 22 (by decide) h hz
theorem bl_23 {P : PH} {k : Int} (h : BdM P) : (-9223372036854775808) ≤ P 23 k ∧ P 23 k ≤ 9223372036854775807 := h.2 23 (by decide) (by decide) k
theorem ba_23 {P : PH} {k z : Int} (h : BdM P) (hz : (-9223372036854775808) ≤ z ∧ z ≤ 9223372036854775807) : BdM (up P 23 k z) := baM 23 (by decide) h hz
theorem bl_24 {P : PH} {k : Int} (h : BdM P) : 0 ≤ P 24 k ∧ P 24 k ≤ 4 := h.2 24 (by decide) (by decide) k
theorem ba_24 {P : PH} {k z : Int} (h : BdM P) (hz : 0 ≤ z ∧ z ≤ 4) : BdM (up P 24 k z) := baM 24 (by decide) h hz
theorem bl_25 {P : PH} {k : Int} (h : BdM P) : (-2147483648) ≤ P 25 k ∧ P 25 k ≤ 2147483647 := h.2 25 (by decide) (by decide) k
theorem ba_25 {P : PH} {k z : Int} (h : BdM P) (hz : (-2147483648) ≤ z ∧ z ≤ 2147483647) : BdM (up P 25 k z) := baM 25 (by decide) h hz
theorem bl_26 {P : PH} {k : Int} (h : BdM P) : 0 ≤ P 26 k ∧ P 26 k ≤ 23 := h.2 26 (by decide) (by decide) k
theorem ba_26 {P : PH} {k z : Int} (h : BdM P) (hz : 0 ≤ z ∧ z ≤ 23) : BdM (up P 26 k z) := baM 26 (by decide) h hz
theorem bl_27 {P : PH} {k : Int} (h : BdM P) : 0 ≤ P 27 k ∧ P 27 k ≤ 1 := h.2 27 (by decide) (by decide) k
theorem ba_27 {P : PH} {k z : Int} (h : BdM P) (hz : 0 ≤ z ∧ z ≤ 1) : BdM (up P 27 k z) := baM 27 (by decide) h hz
theorem bl_28 {P : PH} {k : Int} (h : BdM P) : (-2147483648) ≤ P 28 k ∧ P 28 k ≤ 2147483647 := h.2 28 (by decide) (by decide) k
theorem ba_28 {P : PH} {k z : Int} (h : BdM P) (hz : (-2147483648) ≤ z ∧ z ≤ 2147483647) : BdM (up P 28 k z) := baM 28 (by decide) h hz
theorem bl_29 {P : PH} {k : Int} (h : BdM P) : (-2147483648) ≤ P 29 k ∧ P 29 k ≤ 2147483647 := h.2 29 (by decide) (by decide) k
theorem ba_29 {P : PH} {k z : Int} (h : BdM P) (hz : (-2147483648) ≤ z ∧ z ≤ 2147483647) : BdM (up P 29 k z) := baM 29 (by decide) h hz
theorem bl_30 {P : PH} {k : Int} (h : BdM P) : 0 ≤ P 30 k ∧ P 30 k ≤ 1 := h.2 30 (by decide) (by decide) k
theorem ba_30 {P : PH} {k z : Int} (h : BdM P) (hz : 0 ≤ z ∧ z ≤ 1) : BdM (up P 30 k z) := baM 30 (by decide) h hz
theorem bl_31 {P : PH} {k : Int} (h : BdM P) : 0 ≤ P 31 k ∧ P 31 k ≤ 2009 := h.2 31 (by decide) (by decide) k
theorem ba_31 {P : PH} {k z : Int} (h : BdM P) (hz : 0 ≤ z ∧ z ≤ 2009) : BdM (up P 31 k z) := baM 31 (by decide) h hz
theorem bl_32 {P : PH} {k : Int} (h : BdM P) : 0 ≤ P 32 k ∧ P 32 k ≤ 4095 := h.2 32 (by decide) (by decide) k
theorem ba_32 {P : PH} {k z : Int} (h : BdM P) (hz : 0 ≤ z ∧ z ≤ 4095) : BdM (up P 32 k z) := baM 32 (by decide) h hz
theorem bl_33 {P : PH} {k : Int} (h : BdM P) : 0 ≤ P 33 k ∧ P 33 k ≤ 2009 := h.2 33 (by decide) (by decide) k
theorem ba_33 {P : PH} {k z : Int} (h : BdM P) (hz : 0 ≤ z ∧ z ≤ 2009) : BdM (up P 33 k z) := baM 33 (by decide) h hz
theorem bl_34 {P : PH} {k : Int} (h : BdM P) : (-1) ≤ P 34 k ∧ P 34 k ≤ 2009 := h.2 34 (by decide) (by decide) k
theorem ba_34 {P : PH} {k z : Int} (h : BdM P) (hz : (-1) ≤ z ∧ z ≤ 2009) : BdM (up P 34 k z) := baM 34 (by decide) h hz
theorem bl_35 {P : PH} {k : Int} (h : BdM P) : 0 ≤ P 35 k ∧ P 35 k ≤ 12 := h.2 35 (by decide) (by decide) k
theorem ba_35 {P : PH} {k z : Int} (h : BdM P) (hz : 0 ≤ z ∧ z ≤ 12) : BdM (up P 35 k z) := baM 35 (by decide) h hz
theorem bl_36 {P : PH} {k : Int} (h : BdM P) : 0 ≤ P 36 k ∧ P 36 k ≤ 11 := h.2 36 (by decide) (by decide) k
theorem ba_36 {P : PH} {k z : Int} (h : BdM P) (hz : 0 ≤ z ∧ z ≤ 11) : BdM (up P 36 k z) := baM 36 (by decide) h hz
theorem bl_37 {P : PH} {k : Int} (h : BdM P) : 0 ≤ P 37 k ∧ P 37 k ≤ 255 := h.2 37 (by decide) (by decide) k
theorem ba_37 {P : PH} {k z : Int} (h : BdM P) (hz : 0 ≤ z ∧ z ≤ 255) : BdM (up P 37 k z) := baM 37 (by decide) h hz
theorem bl_38 {P : PH} {k : Int} (h : BdM P) : (-2147483648) ≤ P 38 k ∧ P 38 k ≤ 2147483647 := h.2 38 (by decide) (by decide) k
theorem ba_38 {P : PH} {k z : Int} (h : BdM P) (hz : (-2147483648) ≤ z ∧ z ≤ 2147483647) : BdM (up P 38 k z) := baM 38 (by decide) h hz
theorem bl_39 {P : PH} {k : Int} (h : BdM P) : 0 ≤ P 39 k ∧ P 39 k ≤ 40 := h.2 39 (by decide) (by decide) k
theorem ba_39 {P : PH} {k z : Int} (h : BdM P) (hz : 0 ≤ z ∧ z ≤ 40) : BdM (up P 39 k z) := baM 39 (by decide) h hz
theorem bl_40 {P : PH} {k : Int} (h : BdM P) : (-2147483648) ≤ P 40 k ∧ P 40 k ≤ 2147483647 := h.2 40 (by decide) (by decide) k
theorem ba_40 {P : PH} {k z : Int} (h : BdM P) (hz : (-2147483648) ≤ z ∧ z ≤ 2147483647) : BdM (up P 40 k z) := baM 40 (by decide) h hz
theorem bl_41 {P : PH} {k : Int} (h : BdM P) : 0 ≤ P 41 k ∧ P 41 k ≤ 4095 := h.2 41 (by decide) (by decide) k
theorem ba_41 {P : PH} {k z : Int} (h : BdM P) (hz : 0 ≤ z ∧ z ≤ 4095) : BdM (up P 41 k z) := baM 41 (by decide) h hz
theorem bl_42 {P : PH} {k : Int} (h : BdM P) : 0 ≤ P 42 k ∧ P 42 k ≤ 4095 := h.2 42 (by decide) (by decide) k
theorem ba_42 {P : PH} {k z : Int} (h : BdM P) (hz : 0 ≤ z ∧ z ≤ 4095) : BdM (up P 42 k z) := baM 42 (by decide) h hz
theorem bl_43 {P : PH} {k : Int} (h : BdM P) : (-2147483648) ≤ P 43 k ∧ P 43 k ≤ 2147483647 := h.2 43 (by decide) (by decide) k
theorem ba_43 {P : PH} {k z : Int} (h : BdM P) (hz : (-2147483648) ≤ z ∧ z ≤ 2147483647) : BdM (up P 43 k z) := baM 43 (by decide) h hz
theorem bl_44 {P : PH} {k : Int} (h : BdM P) : 0 ≤ P 44 k ∧ P 44 k ≤ 2009 := h.2 44 (by decide) (by decide) k
theorem ba_44 {P : PH} {k z : Int} (h : BdM P) (hz : 0 ≤ z ∧ z ≤ 2009) : BdM (up P 44 k z) := baM 44 (by decide) h hz
theorem bl_45 {P : PH} {k : Int} (h : BdM P) : (-2147483648) ≤ P 45 k ∧ P 45 k ≤ 2147483647 := h.2 45 (by decide) (by decide) k
theorem ba_45 {P : PH} {k z : Int} (h : BdM P) (hz : (-2147483648) ≤ z ∧ z ≤ 2147483647) : BdM (up P 45 k z) := baM 45 (by decide) h hz
theorem bl_46 {P : PH} {k : Int} (h : BdM P) : 0 ≤ P 46 k ∧ P 46 k ≤ 255 := h.2 46 (by decide) (by decide) k
theorem ba_46 {P : PH} {k z : Int} (h : BdM P) (hz : 0 ≤ z ∧ z ≤ 255) : BdM (up P 46 k z) := baM 46 (by decide) h hz
theorem bl_47 {P : PH} {k : Int} (h : BdM P) : 0 ≤ P 47 k ∧ P 47 k ≤ 5 := h.2 47 (by decide) (by decide) k
theorem ba_47 {P : PH} {k z : Int} (h : BdM P) (hz : 0 ≤ z ∧ z ≤ 5) : BdM (up P 47 k z) := baM 47 (by decide) h hz
theorem bl_48 {P : PH} {k : Int} (h : BdM P) : (-2147483648) ≤ P 48 k ∧ P 48 k ≤ 2147483647 := h.2 48 (by decide) (by decide) k
theorem ba_48 {P : PH} {k z : Int} (h : BdM P) (hz : (-2147483648) ≤ z ∧ z ≤ 2147483647) : BdM (up P 48 k z) := baM 48 (by decide) h hz
theorem bl_49 {P : PH} {k : Int} (h : BdM P) : (-2147483648) ≤ P 49 k ∧ P 49 k ≤ 2147483647 := h.2 49 (by decide) (by decide) k
theorem ba_49 {P : PH} {k z : Int} (h : BdM P) (hz : (-2147483648) ≤ z ∧ z ≤ 2147483647) : BdM (up P 49 k z) := baM 49 (by decide) h hz
theorem bl_50 {P : PH} {k : Int} (h : BdM P) : (-2147483648) ≤ P 50 k ∧ P 50 k ≤ 2147483647 := h.2 50 (by decide) (by decide) k
theorem ba_50 {P : PH} {k z : Int} (h : BdM P) (hz : (-2147483648) ≤ z ∧ z ≤ 2147483647) : BdM (up P 50 k z) := baM 50 (by decide) h hz
theorem bl_51 {P : PH} {k : Int} (h : BdM P) : (-2147483648) ≤ P 51 k ∧ P 51 k ≤ 2147483647 := h.2 51 (by decide) (by decide) k
theorem ba_51 {P : PH} {k z : Int} (h : BdM P) (hz : (-2147483648) ≤ z ∧ z ≤ 2147483647) : BdM (up P 51 k z) := baM 51 (by decide) h hz
theorem bl_52 {P : PH} {k : Int} (h : BdM P) : 0 ≤ P 52 k ∧ P 52 k ≤ 65535 := h.2 52 (by decide) (by decide) k
theorem ba_52 {P : PH} {k z : Int} (h : BdM P) (hz : 0 ≤ z ∧ z ≤ 65535) : BdM (up P 52 k z) := baM 52 (by decide) h hz
theorem bl_53 {P : PH} {k : Int} (h : BdM P) : (-2147483648) ≤ P 53 k ∧ P 53 k ≤ 2147483647 := h.2 53 (by decide) (by decide) k
theorem ba_53 {P : PH} {k z : Int} (h : BdM P) (hz : (-2147483648) ≤ z ∧ z ≤ 2147483647) : BdM (up P 53 k z) := baM 53 (by decide) h hz
theorem bl_54 {P : PH} {k : Int} (h : BdM P) : 0 ≤ P 54 k ∧ P 54 k ≤ 65535 := h.2 54 (by decide) (by decide) k
theorem ba_54 {P : PH} {k z : Int} (h : BdM P) (hz : 0 ≤ z ∧ z ≤ 65535) : BdM (up P 54 k z) := baM 54 (by decide) h hz
theorem bl_55 {P : PH} {k : Int} (h : BdM P) : (-2147483648) ≤ P 55 k ∧ P 55 k ≤ 2147483647 := h.2 55 (by decide) (by decide) k
theorem ba_55 {P : PH} {k z : Int} (h : BdM P) (hz : (-2147483648) ≤ z ∧ z ≤ 2147483647) : BdM (up P 55 k z) := baM 55 (by decide) h hz
theorem bl_56 {P : PH} {k : Int} (h : BdM P) : (-2147483648) ≤ P 56 k ∧ P 56 k ≤ 2147483647 := h.2 56 (by decide) (by decide) k
theorem ba_56 {P : PH} {k z : Int} (h : BdM P) (hz : (-2147483648) ≤ z ∧ z ≤ 2147483647) : BdM (up P 56 k z) := baM 56 (by decide) h hz
theorem bl_57 {P : PH} {k : Int} (h : BdM P) : (-2147483648) ≤ P 57 k ∧ P 57 k ≤ 2147483647 := h.2 57 (by decide) (by decide) k
theorem ba_57 {P : PH} {k z : Int} (h : BdM P) (hz : (-2147483648) ≤ z ∧ z ≤ 2147483647) : BdM (up P 57 k z) := baM 57 (by decide) h hz
theorem bl_58 {P : PH} {k : Int} (h : BdM P) : 0 ≤ P 58 k ∧ P 58 k ≤ 1 := h.2 58 (by decide) (by decide) k
theorem ba_58 {P : PH} {k z : Int} (h : BdM P) (hz : 0 ≤ z ∧ z ≤ 1) : BdM (up P 58 k z) := baM 58 (by decide) h hz
theorem bl_59 {P : PH} {k : Int} (h : BdM P) : 0 ≤ P 59 k ∧ P 59 k ≤ 65535 := h.2 59 (by decide) (by decide) k
theorem ba_59 {P : PH} {k z : Int} (h : BdM P) (hz : 0 ≤ z ∧ z ≤ 65535) : BdM (up P 59 k z) := baM 59 (by decide) h hz
theorem bl_60 {P : PH} {k : Int} (h : BdM P) : (-2147483648) ≤ P 60 k ∧ P 60 k ≤ 2147483647 := h.2 60 (by decide) (by decide) k
theorem ba_60 {P : PH} {k z : Int} (h : BdM P) (hz : (-2147483648) ≤ z ∧ z ≤ 2147483647) : BdM (up P 60 k z) := baM 60 (by decide) h hz
theorem bl_61 {P : PH} {k : Int} (h : BdM P) : 0 ≤ P 61 k ∧ P 61 k ≤ 1 := h.2 61 (by decide) (by decide) k
theorem ba_61 {P : PH} {k z : Int} (h : BdM P) (hz : 0 ≤ z ∧ z ≤ 1) : BdM (up P 61 k z) := baM 61 (by decide) h hz
theorem bl_62 {P : PH} {k : Int} (h : BdM P) : (-2147483648) ≤ P 62 k ∧ P 62 k ≤ 2147483647 := h.2 62 (by decide) (by decide) k
theorem ba_62 {P : PH} {k z : Int} (h : BdM P) (hz : (-2147483648) ≤ z ∧ z ≤ 2147483647) : BdM (up P 62 k z) := baM 62 (by decide) h hz
theorem bl_63 {P : PH} {k : Int} (h : BdM P) : (-2147483648) ≤ P 63 k ∧ P 63 k ≤ 2147483647 := h.2 63 (by decide) (by decide) k
theorem ba_63 {P : PH} {k z : Int} (h : BdM P) (hz : (-2147483648) ≤ z ∧ z ≤ 2147483647) : BdM (up P 63 k z) := baM 63 (by decide) h hz
/-! The methods of the reference. -/
abbrev iX12_is : MI := (yX12_is, cX12_is, 3, (some .boolean))
theorem cf_X12_is : CFS iX12_is 3 := ⟨t_1801, t_147, t_1802, by decide +kernel, by decide⟩
abbrev iX12_put : MI := (yX12_put, cX12_put, 3, none)
theorem cf_X12_put : CFV iX12_put 1 := ⟨t_1673, s_48, t_147, t_1674, by decide +kernel, by decide⟩
abbrev iX12_feed : MI := (yX12_feed, cX12_feed, 6, (some .int))
theorem cf_X12_feed : CFV iX12_feed 5 := ⟨t_1664, t_1665, t_147, t_1666, by decide +kernel, by decide⟩
abbrev iX12_end : MI := (yX12_end, cX12_end, 2, (some .boolean))
theorem cf_X12_end : CFV iX12_end 1 := ⟨t_1676, t_1677, t_147, t_1678, by decide +kernel, by decide⟩
abbrev iX12_blame : MI := (yX12_blame, cX12_blame, 3, none)
theorem cf_X12_blame : CFV iX12_blame 2 := ⟨t_1703, s_52, t_147, t_1704, by decide +kernel, by decide⟩
abbrev iX12_isLetter : MI := (yX12_isLetter, cX12_isLetter, 1, (some .boolean))
theorem cf_X12_isLetter : CFS iX12_isLetter 1 := ⟨t_1688, t_147, t_1689, by decide +kernel, by decide⟩
abbrev iX12_isDigit : MI := (yX12_isDigit, cX12_isDigit, 1, (some .boolean))
theorem cf_X12_isDigit : CFS iX12_isDigit 1 := ⟨t_1691, t_147, t_1692, by decide +kernel, by decide⟩
abbrev iX12_lex : MI := (yX12_lex, cX12_lex, 1, none)
theorem cf_X12_lex : CFV iX12_lex 0 := ⟨t_1699, s_51, t_147, t_1700, by decide +kernel, by decide⟩
abbrev iX12_ahead : MI := (yX12_ahead, cX12_ahead, 6, none)
theorem cf_X12_ahead : CFV iX12_ahead 0 := ⟨t_1685, s_49, t_147, t_1686, by decide +kernel, by decide⟩
abbrev iX12_isSign : MI := (yX12_isSign, cX12_isSign, 2, (some .boolean))
theorem cf_X12_isSign : CFV iX12_isSign 1 := ⟨t_1774, s_67, t_147, t_1775, by decide +kernel, by decide⟩
abbrev iX12_isWord : MI := (yX12_isWord, cX12_isWord, 3, (some .boolean))
theorem cf_X12_isWord : CFV iX12_isWord 1 := ⟨t_1708, s_53, t_147, t_1709, by decide +kernel, by decide⟩
abbrev iX12_must : MI := (yX12_must, cX12_must, 2, none)
theorem cf_X12_must : CFV iX12_must 1 := ⟨t_1770, s_66, t_147, t_1771, by decide +kernel, by decide⟩
abbrev iX12_isOwn : MI := (yX12_isOwn, cX12_isOwn, 3, (some .boolean))
theorem cf_X12_isOwn : CFV iX12_isOwn 1 := ⟨t_1724, s_57, t_147, t_1725, by decide +kernel, by decide⟩
abbrev iX12_number : MI := (yX12_number, cX12_number, 4, (some .int))
theorem cf_X12_number : CFV iX12_number 2 := ⟨t_1798, s_73, t_147, t_1799, by decide +kernel, by decide⟩
abbrev iX12_isCounted : MI := (yX12_isCounted, cX12_isCounted, 2, (some .boolean))
theorem cf_X12_isCounted : CFV iX12_isCounted 1 := ⟨t_1716, s_55, t_147, t_1717, by decide +kernel, by decide⟩
abbrev iX12_kindNamed : MI := (yX12_kindNamed, cX12_kindNamed, 4, (some .int))
theorem cf_X12_kindNamed : CFV iX12_kindNamed 1 := ⟨t_1738, s_58, t_147, t_1739, by decide +kernel, by decide⟩
abbrev iX12_conNamed : MI := (yX12_conNamed, cX12_conNamed, 5, (some .int))
theorem cf_X12_conNamed : CFV iX12_conNamed 2 := ⟨t_1742, s_59, t_147, t_1743, by decide +kernel, by decide⟩
abbrev iX12_valuesOf : MI := (yX12_valuesOf, cX12_valuesOf, 3, (some .int))
theorem cf_X12_valuesOf : CFV iX12_valuesOf 2 := ⟨t_1758, s_63, t_147, t_1759, by decide +kernel, by decide⟩
abbrev iX12_fresh : MI := (yX12_fresh, cX12_fresh, 3, (some .long))
theorem cf_X12_fresh : CFV iX12_fresh 0 := ⟨t_1720, s_56, t_147, t_1721, by decide +kernel, by decide⟩
abbrev iX12_kindIs : MI := (yX12_kindIs, cX12_kindIs, 4, none)
theorem cf_X12_kindIs : CFV iX12_kindIs 0 := ⟨t_1712, s_54, t_147, t_1713, by decide +kernel, by decide⟩
abbrev iX12_known : MI := (yX12_known, cX12_known, 4, (some .int))
theorem cf_X12_known : CFV iX12_known 1 := ⟨t_1754, s_62, t_147, t_1755, by decide +kernel, by decide⟩
abbrev iX12_isKindHere : MI := (yX12_isKindHere, cX12_isKindHere, 1, (some .boolean))
theorem cf_X12_isKindHere : CFV iX12_isKindHere 0 := ⟨t_1750, s_61, t_147, t_1751, by decide +kernel, by decide⟩
abbrev iX12_conIs : MI := (yX12_conIs, cX12_conIs, 7, none)
theorem cf_X12_conIs : CFV iX12_conIs 0 := ⟨t_1746, s_60, t_147, t_1747, by decide +kernel, by decide⟩
abbrev iX12_matchIs : MI := (yX12_matchIs, cX12_matchIs, 3, none)
theorem cf_X12_matchIs : CFV iX12_matchIs 0 := ⟨t_1762, s_64, t_147, t_1763, by decide +kernel, by decide⟩
abbrev iX12_emits : MI := (yX12_emits, cX12_emits, 5, none)
theorem cf_X12_emits : CFV iX12_emits 3 := ⟨t_1790, s_71, t_147, t_1791, by decide +kernel, by decide⟩
abbrev iX12_opensPattern : MI := (yX12_opensPattern, cX12_opensPattern, 2, none)
theorem cf_X12_opensPattern : CFV iX12_opensPattern 1 := ⟨t_1782, s_69, t_147, t_1783, by decide +kernel, by decide⟩
abbrev iX12_fieldBegins : MI := (yX12_fieldBegins, cX12_fieldBegins, 3, none)
theorem cf_X12_fieldBegins : CFV iX12_fieldBegins 2 := ⟨t_1805, s_74, t_147, t_1806, by decide +kernel, by decide⟩
abbrev iX12_range : MI := (yX12_range, cX12_range, 3, none)
theorem cf_X12_range : CFV iX12_range 0 := ⟨t_1794, s_72, t_147, t_1795, by decide +kernel, by decide⟩
abbrev iX12_alternative : MI := (yX12_alternative, cX12_alternative, 3, (some .boolean))
theorem cf_X12_alternative : CFV iX12_alternative 0 := ⟨t_1786, s_70, t_147, t_1787, by decide +kernel, by decide⟩
abbrev iX12_goesOn : MI := (yX12_goesOn, cX12_goesOn, 3, (some .boolean))
theorem cf_X12_goesOn : CFV iX12_goesOn 1 := ⟨t_1809, s_75, t_147, t_1810, by decide +kernel, by decide⟩
abbrev iX12_pattern : MI := (yX12_pattern, cX12_pattern, 3, none)
theorem cf_X12_pattern : CFV iX12_pattern 1 := ⟨t_1778, s_68, t_147, t_1779, by decide +kernel, by decide⟩
abbrev iX12_armIs : MI := (yX12_armIs, cX12_armIs, 3, none)
theorem cf_X12_armIs : CFV iX12_armIs 0 := ⟨t_1766, s_65, t_147, t_1767, by decide +kernel, by decide⟩
abbrev iX12_ruleIs : MI := (yX12_ruleIs, cX12_ruleIs, 1, none)
theorem cf_X12_ruleIs : CFV iX12_ruleIs 0 := ⟨t_1813, s_76, t_147, t_1814, by decide +kernel, by decide⟩
abbrev iX12_budgetIs : MI := (yX12_budgetIs, cX12_budgetIs, 1, none)
theorem cf_X12_budgetIs : CFV iX12_budgetIs 0 := ⟨t_1817, s_77, t_147, t_1818, by decide +kernel, by decide⟩
abbrev iX12_statement : MI := (yX12_statement, cX12_statement, 1, none)
theorem cf_X12_statement : CFV iX12_statement 0 := ⟨t_1695, s_50, t_147, t_1696, by decide +kernel, by decide⟩
abbrev iX12_finishes : MI := (yX12_finishes, cX12_finishes, 3, none)
theorem cf_X12_finishes : CFV iX12_finishes 1 := ⟨t_1821, s_78, t_147, t_1822, by decide +kernel, by decide⟩
abbrev iX12_match : MI := (yX12_match, cX12_match, 2, (some .int))
theorem cf_X12_match : CFV iX12_match 0 := ⟨t_1680, t_1681, t_147, t_1682, by decide +kernel, by decide⟩
abbrev iX12_fault : MI := (yX12_fault, cX12_fault, 2, (some .int))
theorem cf_X12_fault : CFV iX12_fault 1 := ⟨t_1844, t_1845, t_147, t_1846, by decide +kernel, by decide⟩
abbrev iX12_refuses : MI := (yX12_refuses, cX12_refuses, 2, (some .int))
theorem cf_X12_refuses : CFV iX12_refuses 1 := ⟨t_1669, s_47, t_147, t_1670, by decide +kernel, by decide⟩
abbrev iX12_status : MI := (yX12_status, cX12_status, 2, (some .int))
theorem cf_X12_status : CFV iX12_status 1 := ⟨t_1848, t_1849, t_147, t_1850, by decide +kernel, by decide⟩
abbrev iX12_fieldOf : MI := (yX12_fieldOf, cX12_fieldOf, 7, (some .int))
theorem cf_X12_fieldOf : CFV iX12_fieldOf 3 := ⟨t_1841, s_83, t_147, t_1842, by decide +kernel, by decide⟩
abbrev iX12_isFitting : MI := (yX12_isFitting, cX12_isFitting, 9, (some .boolean))
theorem cf_X12_isFitting : CFV iX12_isFitting 3 := ⟨t_1837, s_82, t_147, t_1838, by decide +kernel, by decide⟩
abbrev iX12_columns : MI := (yX12_columns, cX12_columns, 1, (some .int))
theorem cf_X12_columns : CFV iX12_columns 0 := ⟨t_1829, s_80, t_147, t_1830, by decide +kernel, by decide⟩
abbrev iX12_columnValues : MI := (yX12_columnValues, cX12_columnValues, 2, (some .int))
theorem cf_X12_columnValues : CFV iX12_columnValues 1 := ⟨t_1833, s_81, t_147, t_1834, by decide +kernel, by decide⟩
abbrev iX12_lays : MI := (yX12_lays, cX12_lays, 5, none)
theorem cf_X12_lays : CFV iX12_lays 0 := ⟨t_1825, s_79, t_147, t_1826, by decide +kernel, by decide⟩
abbrev iX12_copies : MI := (yX12_copies, cX12_copies, 4, none)
theorem cf_X12_copies : CFV iX12_copies 2 := ⟨t_1861, s_85, t_147, t_1862, by decide +kernel, by decide⟩
abbrev iX12_begin : MI := (yX12_begin, cX12_begin, 2, none)
theorem cf_X12_begin : CFV iX12_begin 0 := ⟨t_1366, s_46, t_147, t_1367, by decide +kernel, by decide⟩
abbrev iX12_slot : MI := (yX12_slot, cX12_slot, 2, (some .int))
theorem cf_X12_slot : CFV iX12_slot 1 := ⟨t_1857, s_84, t_147, t_1858, by decide +kernel, by decide⟩
abbrev iX12_keeps : MI := (yX12_keeps, cX12_keeps, 1, none)
theorem cf_X12_keeps : CFV iX12_keeps 0 := ⟨t_2134, s_125, t_147, t_2135, by decide +kernel, by decide⟩
abbrev iX12_undo : MI := (yX12_undo, cX12_undo, 1, (some .boolean))
theorem cf_X12_undo : CFV iX12_undo 0 := ⟨t_1852, t_1853, t_147, t_1854, by decide +kernel, by decide⟩
abbrev iX12_placed : MI := (yX12_placed, cX12_placed, 5, (some .int))
theorem cf_X12_placed : CFV iX12_placed 2 := ⟨t_1893, s_88, t_147, t_1894, by decide +kernel, by decide⟩
abbrev iX12_arranges : MI := (yX12_arranges, cX12_arranges, 4, none)
theorem cf_X12_arranges : CFV iX12_arranges 1 := ⟨t_1889, s_87, t_147, t_1890, by decide +kernel, by decide⟩
abbrev iX12_openBy : MI := (yX12_openBy, cX12_openBy, 4, (some .int))
theorem cf_X12_openBy : CFV iX12_openBy 1 := ⟨t_1925, s_96, t_147, t_1926, by decide +kernel, by decide⟩
abbrev iX12_lowest : MI := (yX12_lowest, cX12_lowest, 2, (some .int))
theorem cf_X12_lowest : CFS iX12_lowest 1 := ⟨t_1928, t_147, t_1929, by decide +kernel, by decide⟩
abbrev iX12_bitsOf : MI := (yX12_bitsOf, cX12_bitsOf, 3, (some .int))
theorem cf_X12_bitsOf : CFS iX12_bitsOf 1 := ⟨t_2032, t_147, t_2033, by decide +kernel, by decide⟩
abbrev iX12_valuesIn : MI := (yX12_valuesIn, cX12_valuesIn, 4, none)
theorem cf_X12_valuesIn : CFV iX12_valuesIn 1 := ⟨t_1905, s_91, t_147, t_1906, by decide +kernel, by decide⟩
abbrev iX12_setIn : MI := (yX12_setIn, cX12_setIn, 3, (some .int))
theorem cf_X12_setIn : CFV iX12_setIn 2 := ⟨t_1909, s_92, t_147, t_1910, by decide +kernel, by decide⟩
abbrev iX12_fitting : MI := (yX12_fitting, cX12_fitting, 4, (some .int))
theorem cf_X12_fitting : CFV iX12_fitting 1 := ⟨t_1901, s_90, t_147, t_1902, by decide +kernel, by decide⟩
abbrev iX12_countsRows : MI := (yX12_countsRows, cX12_countsRows, 2, none)
theorem cf_X12_countsRows : CFV iX12_countsRows 0 := ⟨t_1897, s_89, t_147, t_1898, by decide +kernel, by decide⟩
abbrev iX12_has : MI := (yX12_has, cX12_has, 2, (some .int))
theorem cf_X12_has : CFV iX12_has 1 := ⟨t_1864, t_1865, t_147, t_1866, by decide +kernel, by decide⟩
abbrev iX12_lettersOf : MI := (yX12_lettersOf, cX12_lettersOf, 5, (some .int))
theorem cf_X12_lettersOf : CFS iX12_lettersOf 1 := ⟨t_1872, t_147, t_1873, by decide +kernel, by decide⟩
abbrev iX12_letter : MI := (yX12_letter, cX12_letter, 7, (some .int))
theorem cf_X12_letter : CFV iX12_letter 3 := ⟨t_1868, t_1869, t_147, t_1870, by decide +kernel, by decide⟩
abbrev iX12_values : MI := (yX12_values, cX12_values, 2, (some .int))
theorem cf_X12_values : CFV iX12_values 1 := ⟨t_1876, t_1877, t_147, t_1878, by decide +kernel, by decide⟩
abbrev iX12_isPlace : MI := (yX12_isPlace, cX12_isPlace, 2, (some .boolean))
theorem cf_X12_isPlace : CFV iX12_isPlace 1 := ⟨t_1885, s_86, t_147, t_1886, by decide +kernel, by decide⟩
abbrev iX12_fittingRows : MI := (yX12_fittingRows, cX12_fittingRows, 4, (some .int))
theorem cf_X12_fittingRows : CFV iX12_fittingRows 1 := ⟨t_1917, s_94, t_147, t_1918, by decide +kernel, by decide⟩
abbrev iX12_isUseful : MI := (yX12_isUseful, cX12_isUseful, 4, (some .int))
theorem cf_X12_isUseful : CFV iX12_isUseful 1 := ⟨t_1913, s_93, t_147, t_1914, by decide +kernel, by decide⟩
abbrev iX12_takenRows : MI := (yX12_takenRows, cX12_takenRows, 5, (some .int))
theorem cf_X12_takenRows : CFV iX12_takenRows 1 := ⟨t_1921, s_95, t_147, t_1922, by decide +kernel, by decide⟩
abbrev iX12_arm : MI := (yX12_arm, cX12_arm, 3, (some .int))
theorem cf_X12_arm : CFV iX12_arm 2 := ⟨t_1880, t_1881, t_147, t_1882, by decide +kernel, by decide⟩
abbrev iX12_fits : MI := (yX12_fits, cX12_fits, 4, (some .int))
theorem cf_X12_fits : CFV iX12_fits 3 := ⟨t_1931, t_1932, t_147, t_1933, by decide +kernel, by decide⟩
abbrev iX12_holds : MI := (yX12_holds, cX12_holds, 4, (some .int))
theorem cf_X12_holds : CFV iX12_holds 2 := ⟨t_1935, t_1936, t_147, t_1937, by decide +kernel, by decide⟩
abbrev iX12_missing : MI := (yX12_missing, cX12_missing, 4, (some .int))
theorem cf_X12_missing : CFV iX12_missing 1 := ⟨t_1939, t_1940, t_147, t_1941, by decide +kernel, by decide⟩
abbrev iX12_isRow : MI := (yX12_isRow, cX12_isRow, 2, (some .boolean))
theorem cf_X12_isRow : CFV iX12_isRow 1 := ⟨t_1948, s_97, t_147, t_1949, by decide +kernel, by decide⟩
abbrev iX12_taken : MI := (yX12_taken, cX12_taken, 2, (some .int))
theorem cf_X12_taken : CFV iX12_taken 1 := ⟨t_1943, t_1944, t_147, t_1945, by decide +kernel, by decide⟩
abbrev iX12_valueRead : MI := (yX12_valueRead, cX12_valueRead, 5, (some .int))
theorem cf_X12_valueRead : CFV iX12_valueRead 1 := ⟨t_1956, s_98, t_147, t_1957, by decide +kernel, by decide⟩
abbrev iX12_conRead : MI := (yX12_conRead, cX12_conRead, 3, (some .int))
theorem cf_X12_conRead : CFV iX12_conRead 1 := ⟨t_1964, s_100, t_147, t_1965, by decide +kernel, by decide⟩
abbrev iX12_isMoreOf : MI := (yX12_isMoreOf, cX12_isMoreOf, 5, (some .boolean))
theorem cf_X12_isMoreOf : CFV iX12_isMoreOf 1 := ⟨t_1960, s_99, t_147, t_1961, by decide +kernel, by decide⟩
abbrev iX12_row : MI := (yX12_row, cX12_row, 3, (some .int))
theorem cf_X12_row : CFV iX12_row 0 := ⟨t_1951, t_1952, t_147, t_1953, by decide +kernel, by decide⟩
abbrev iX12_writes : MI := (yX12_writes, cX12_writes, 2, none)
theorem cf_X12_writes : CFV iX12_writes 1 := ⟨t_1976, s_102, t_147, t_1977, by decide +kernel, by decide⟩
abbrev iX12_writesName : MI := (yX12_writesName, cX12_writesName, 4, none)
theorem cf_X12_writesName : CFV iX12_writesName 1 := ⟨t_1988, s_105, t_147, t_1989, by decide +kernel, by decide⟩
abbrev iX12_later : MI := (yX12_later, cX12_later, 3, none)
theorem cf_X12_later : CFV iX12_later 2 := ⟨t_1972, s_101, t_147, t_1973, by decide +kernel, by decide⟩
abbrev iX12_conOf : MI := (yX12_conOf, cX12_conOf, 5, (some .int))
theorem cf_X12_conOf : CFV iX12_conOf 2 := ⟨t_1984, s_104, t_147, t_1985, by decide +kernel, by decide⟩
abbrev iX12_writesValue : MI := (yX12_writesValue, cX12_writesValue, 6, none)
theorem cf_X12_writesValue : CFV iX12_writesValue 2 := ⟨t_1980, s_103, t_147, t_1981, by decide +kernel, by decide⟩
abbrev iX12_text : MI := (yX12_text, cX12_text, 4, (some .int))
theorem cf_X12_text : CFV iX12_text 1 := ⟨t_1967, t_1968, t_147, t_1969, by decide +kernel, by decide⟩
abbrev iX12_octet : MI := (yX12_octet, cX12_octet, 2, (some .int))
theorem cf_X12_octet : CFV iX12_octet 1 := ⟨t_1991, t_1992, t_147, t_1993, by decide +kernel, by decide⟩
abbrev iX12_leftOf : MI := (yX12_leftOf, cX12_leftOf, 2, (some .int))
theorem cf_X12_leftOf : CFS iX12_leftOf 2 := ⟨t_2015, t_147, t_2016, by decide +kernel, by decide⟩
abbrev iX12_armsIn : MI := (yX12_armsIn, cX12_armsIn, 1, (some .int))
theorem cf_X12_armsIn : CFS iX12_armsIn 1 := ⟨t_2018, t_147, t_2019, by decide +kernel, by decide⟩
abbrev iX12_columnsIn : MI := (yX12_columnsIn, cX12_columnsIn, 1, (some .int))
theorem cf_X12_columnsIn : CFS iX12_columnsIn 1 := ⟨t_2025, t_147, t_2026, by decide +kernel, by decide⟩
abbrev iX12_worthOf : MI := (yX12_worthOf, cX12_worthOf, 7, (some .int))
theorem cf_X12_worthOf : CFV iX12_worthOf 2 := ⟨t_2029, s_111, t_147, t_2030, by decide +kernel, by decide⟩
abbrev iX12_asksFor : MI := (yX12_asksFor, cX12_asksFor, 8, (some .int))
theorem cf_X12_asksFor : CFV iX12_asksFor 1 := ⟨t_2022, s_110, t_147, t_2023, by decide +kernel, by decide⟩
abbrev iX12_isDoor : MI := (yX12_isDoor, cX12_isDoor, 2, (some .boolean))
theorem cf_X12_isDoor : CFV iX12_isDoor 1 := ⟨t_2051, s_115, t_147, t_2052, by decide +kernel, by decide⟩
abbrev iX12_throughDoor : MI := (yX12_throughDoor, cX12_throughDoor, 1, (some .int))
theorem cf_X12_throughDoor : CFS iX12_throughDoor 1 := ⟨t_2035, t_147, t_2036, by decide +kernel, by decide⟩
abbrev iX12_branchOf : MI := (yX12_branchOf, cX12_branchOf, 4, (some .int))
theorem cf_X12_branchOf : CFV iX12_branchOf 3 := ⟨t_2039, s_112, t_147, t_2040, by decide +kernel, by decide⟩
abbrev iX12_root : MI := (yX12_root, cX12_root, 1, (some .int))
theorem cf_X12_root : CFV iX12_root 0 := ⟨t_2012, s_109, t_147, t_2013, by decide +kernel, by decide⟩
abbrev iX12_plants : MI := (yX12_plants, cX12_plants, 3, none)
theorem cf_X12_plants : CFV iX12_plants 2 := ⟨t_2000, s_106, t_147, t_2001, by decide +kernel, by decide⟩
abbrev iX12_testsFor : MI := (yX12_testsFor, cX12_testsFor, 6, (some .int))
theorem cf_X12_testsFor : CFV iX12_testsFor 2 := ⟨t_2008, s_108, t_147, t_2009, by decide +kernel, by decide⟩
abbrev iX12_allTests : MI := (yX12_allTests, cX12_allTests, 5, (some .int))
theorem cf_X12_allTests : CFV iX12_allTests 1 := ⟨t_2004, s_107, t_147, t_2005, by decide +kernel, by decide⟩
abbrev iX12_reaches : MI := (yX12_reaches, cX12_reaches, 2, none)
theorem cf_X12_reaches : CFV iX12_reaches 1 := ⟨t_2047, s_114, t_147, t_2048, by decide +kernel, by decide⟩
abbrev iX12_grows : MI := (yX12_grows, cX12_grows, 5, none)
theorem cf_X12_grows : CFV iX12_grows 0 := ⟨t_2043, s_113, t_147, t_2044, by decide +kernel, by decide⟩
abbrev iX12_weighs : MI := (yX12_weighs, cX12_weighs, 8, none)
theorem cf_X12_weighs : CFV iX12_weighs 1 := ⟨t_2058, s_116, t_147, t_2059, by decide +kernel, by decide⟩
abbrev iX12_sizeOf : MI := (yX12_sizeOf, cX12_sizeOf, 1, (some .int))
theorem cf_X12_sizeOf : CFS iX12_sizeOf 1 := ⟨t_2054, t_147, t_2055, by decide +kernel, by decide⟩
abbrev iX12_tree : MI := (yX12_tree, cX12_tree, 5, (some .int))
theorem cf_X12_tree : CFV iX12_tree 2 := ⟨t_1995, t_1996, t_147, t_1997, by decide +kernel, by decide⟩
abbrev iX12_first : MI := (yX12_first, cX12_first, 4, (some .int))
theorem cf_X12_first : CFV iX12_first 1 := ⟨t_2062, t_2063, t_147, t_2064, by decide +kernel, by decide⟩
abbrev iX12_isNewSet : MI := (yX12_isNewSet, cX12_isNewSet, 5, (some .boolean))
theorem cf_X12_isNewSet : CFV iX12_isNewSet 3 := ⟨t_2083, s_120, t_147, t_2084, by decide +kernel, by decide⟩
abbrev iX12_nextBranch : MI := (yX12_nextBranch, cX12_nextBranch, 5, (some .int))
theorem cf_X12_nextBranch : CFV iX12_nextBranch 1 := ⟨t_2079, s_119, t_147, t_2080, by decide +kernel, by decide⟩
abbrev iX12_opensScope : MI := (yX12_opensScope, cX12_opensScope, 3, none)
theorem cf_X12_opensScope : CFV iX12_opensScope 2 := ⟨t_2075, s_118, t_147, t_2076, by decide +kernel, by decide⟩
abbrev iX12_builds : MI := (yX12_builds, cX12_builds, 3, none)
theorem cf_X12_builds : CFV iX12_builds 0 := ⟨t_2071, s_117, t_147, t_2072, by decide +kernel, by decide⟩
abbrev iX12_scopes : MI := (yX12_scopes, cX12_scopes, 4, (some .int))
theorem cf_X12_scopes : CFV iX12_scopes 3 := ⟨t_2066, t_2067, t_147, t_2068, by decide +kernel, by decide⟩
abbrev iX12_swapped : MI := (yX12_swapped, cX12_swapped, 3, (some .int))
theorem cf_X12_swapped : CFS iX12_swapped 3 := ⟨t_2094, t_147, t_2095, by decide +kernel, by decide⟩
abbrev iX12_moved : MI := (yX12_moved, cX12_moved, 3, (some .int))
theorem cf_X12_moved : CFS iX12_moved 3 := ⟨t_2097, t_147, t_2098, by decide +kernel, by decide⟩
abbrev iX12_isSafe : MI := (yX12_isSafe, cX12_isSafe, 8, (some .boolean))
theorem cf_X12_isSafe : CFV iX12_isSafe 2 := ⟨t_2091, s_121, t_147, t_2092, by decide +kernel, by decide⟩
abbrev iX12_safe : MI := (yX12_safe, cX12_safe, 3, (some .int))
theorem cf_X12_safe : CFV iX12_safe 2 := ⟨t_2086, t_2087, t_147, t_2088, by decide +kernel, by decide⟩
abbrev iX12_exchanges : MI := (yX12_exchanges, cX12_exchanges, 5, none)
theorem cf_X12_exchanges : CFV iX12_exchanges 3 := ⟨t_2105, s_122, t_147, t_2106, by decide +kernel, by decide⟩
abbrev iX12_best : MI := (yX12_best, cX12_best, 6, (some .int))
theorem cf_X12_best : CFV iX12_best 1 := ⟨t_2100, t_2101, t_147, t_2102, by decide +kernel, by decide⟩
abbrev iX12_see : MI := (yX12_see, cX12_see, 4, (some .int))
theorem cf_X12_see : CFV iX12_see 0 := ⟨t_2108, t_2109, t_147, t_2110, by decide +kernel, by decide⟩
abbrev iX12_leaves : MI := (yX12_leaves, cX12_leaves, 5, (some .int))
theorem cf_X12_leaves : CFV iX12_leaves 0 := ⟨t_2117, s_123, t_147, t_2118, by decide +kernel, by decide⟩
abbrev iX12_sets : MI := (yX12_sets, cX12_sets, 5, (some .int))
theorem cf_X12_sets : CFV iX12_sets 1 := ⟨t_2112, t_2113, t_147, t_2114, by decide +kernel, by decide⟩
abbrev iX12_mostBy : MI := (yX12_mostBy, cX12_mostBy, 6, (some .int))
theorem cf_X12_mostBy : CFV iX12_mostBy 1 := ⟨t_2126, s_124, t_147, t_2127, by decide +kernel, by decide⟩
abbrev iX12_tells : MI := (yX12_tells, cX12_tells, 7, (some .int))
theorem cf_X12_tells : CFV iX12_tells 1 := ⟨t_2120, t_2121, t_147, t_2122, by decide +kernel, by decide⟩
abbrev iX12_runs : MI := (yX12_runs, cX12_runs, 6, (some .int))
theorem cf_X12_runs : CFV iX12_runs 1 := ⟨t_2138, s_126, t_147, t_2139, by decide +kernel, by decide⟩
abbrev iX12_run : MI := (yX12_run, cX12_run, 2, (some .int))
theorem cf_X12_run : CFV iX12_run 1 := ⟨t_2129, t_2130, t_147, t_2131, by decide +kernel, by decide⟩
abbrev iX12_draw : MI := (yX12_draw, cX12_draw, 2, (some .int))
theorem cf_X12_draw : CFV iX12_draw 1 := ⟨t_2146, s_127, t_147, t_2147, by decide +kernel, by decide⟩
abbrev iX12_chance : MI := (yX12_chance, cX12_chance, 4, (some .int))
theorem cf_X12_chance : CFV iX12_chance 1 := ⟨t_2141, t_2142, t_147, t_2143, by decide +kernel, by decide⟩
abbrev iX12_swap : MI := (yX12_swap, cX12_swap, 3, (some .boolean))
theorem cf_X12_swap : CFV iX12_swap 2 := ⟨t_2153, t_2154, t_147, t_2155, by decide +kernel, by decide⟩
abbrev iX12_drop : MI := (yX12_drop, cX12_drop, 3, (some .boolean))
theorem cf_X12_drop : CFV iX12_drop 1 := ⟨t_2157, t_2158, t_147, t_2159, by decide +kernel, by decide⟩
abbrev iX12_turn : MI := (yX12_turn, cX12_turn, 2, (some .int))
theorem cf_X12_turn : CFV iX12_turn 1 := ⟨t_2161, t_2162, t_147, t_2163, by decide +kernel, by decide⟩
abbrev iX12_choose : MI := (yX12_choose, cX12_choose, 2, (some .boolean))
theorem cf_X12_choose : CFV iX12_choose 1 := ⟨t_2165, t_2166, t_147, t_2167, by decide +kernel, by decide⟩
abbrev iX12_seed : MI := (yX12_seed, cX12_seed, 2, (some .boolean))
theorem cf_X12_seed : CFV iX12_seed 1 := ⟨t_2169, t_2170, t_147, t_2171, by decide +kernel, by decide⟩
abbrev iX12_kept : MI := (yX12_kept, cX12_kept, 3, (some .int))
theorem cf_X12_kept : CFV iX12_kept 2 := ⟨t_2173, t_2174, t_147, t_2175, by decide +kernel, by decide⟩
abbrev iX12_image : MI := (yX12_image, cX12_image, 3, (some .int))
theorem cf_X12_image : CFV iX12_image 0 := ⟨t_2177, t_2178, t_147, t_2179, by decide +kernel, by decide⟩
abbrev iX12_comesOn : MI := (yX12_comesOn, cX12_comesOn, 6, (some .boolean))
theorem cf_X12_comesOn : CFV iX12_comesOn 1 := ⟨t_2186, s_128, t_147, t_2187, by decide +kernel, by decide⟩
abbrev iX12_on : MI := (yX12_on, cX12_on, 2, (some .boolean))
theorem cf_X12_on : CFV iX12_on 0 := ⟨t_2181, t_2182, t_147, t_2183, by decide +kernel, by decide⟩
