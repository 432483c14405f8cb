section S99
variable {p_ : Program} {e_ : Env} {l : Launch} {s : State} {m : MethodId} {below : List Frame} {meth : Method} {c : Code} {b L : Nat} {xs : Nat → Int32} {G : gG} {zc zm : Nat → Nat} {o : Nat} {q p : gRF} {g : Nat → Int64} {H : Heap} {locs : List Loc} {cells slots i : Nat} {ls : Array Slot} {Q : State → Prop}
set_option maxHeartbeats 4000000 in
set_option maxRecDepth 100000 in
theorem law_k24 (F : lwF p_ l s m meth c b L xs G) (Z : lwZ s zc zm o) {n d k t v : Nat} (hs : sX q p n d k t v) (hH : lwH G s zc zm o q p g H locs) (hl : lv_has ls 7 (lwLs b zc zm o i)) (hi : 4 * i + 4 ≤ L) (hcl : cells + 5 ≤ 601024 ∧ slots + 30 ≤ 7293034) (kk : lwGo p_ l e_ s m b below meth c G zc zm o i (cells + 5) (slots + 30) Q) : W p_ l e_ room_1 s m #[Value.ref b] below meth c H locs cells slots Q (F0 m 1506 ls []) := by
  obtain ⟨⟨hx, hb, -⟩, hfl, -⟩ := id F
  obtain ⟨-, hn2, -, -, -, hk2, -, ht2, -⟩ := id hs.1.ok
  have hsim := sim_madeAt hs (xs (4 * i + 1))
  refine lv_aload_n hx hb dL_law_1506 rfl (lv_at hl 3 rfl) ?_
  refine law_arg (i := i) (j := 1) F hH hl 4 0 rfl rfl (by omega) (by decide +kernel) dL_law_1507 dL_law_1508 dL_law_1510 dL_law_1511 dL_law_1512 ?_
  refine lv_aload_n hx hb dL_law_1513 rfl (lv_at hl 1 rfl) ?_
  refine law_c1 (As := [.ref (zc 0), .int (xs (4 * i + 1)), .ref o]) (rest := []) F Z hsim hH (c_L_madeAt l hfl G _ zc Z.1 q.1 q.2 hH.1 o g hH.2.2.1 Z.2.2.2.1 (xs (4 * i + 1)) (kB01 _ _)) (vx_cwSW 3 (law_S0 F).2.2.2.2 gL_law_L_madeAt rfl rfl rfl (by decide +kernel) ⟨Nat.le_of_ble_eq_true rfl, Nat.le_of_ble_eq_true rfl⟩) rfl hl.1 dL_law_1514 (Nat.le_of_ble_eq_true rfl) ⟨by omega, by omega⟩ (fun g H locs hH hg => ?_)
  refine lv_istore (lv' := (5, .int _) :: lwLs b zc zm o i) hx hb dL_law_1517 hl (by decide) rfl (fun ls hl => ?_)
  refine lv_aload_n hx hb dL_law_1519 rfl (lv_at hl 3 rfl) ?_
  refine law_arg (i := i) (j := 1) F hH hl 5 1 rfl rfl (by omega) (by decide +kernel) dL_law_1520 dL_law_1521 dL_law_1523 dL_law_1524 dL_law_1525 ?_
  refine law_c2 (As := [.int (xs (4 * i + 1))]) (rest := []) F Z hsim hH (c_X7_madeAt l G _ zm Z.2.1 p.1 p.2 hH.2.1 (xs (4 * i + 1)) n d k t hs.1.ok) (cwV 1 (law_S0 F).2.2.2.2 gL_law_X7_madeAt rfl rfl rfl (by decide +kernel) ⟨Nat.le_of_ble_eq_true rfl, Nat.le_of_ble_eq_true rfl⟩) rfl hl.1 dL_law_1526 (Nat.le_of_ble_eq_true rfl) ⟨by omega, by omega⟩ (fun H locs hH => ?_)
  refine W.widen (k := cells + 5) (n := slots + 30) (by omega) (by omega) ?_
  exact law_ti (t13 := 1542) (t30 := 1559) F hsim hH hg hl dL_law_1529 dL_law_1531 dL_law_1532 dL_law_1535 dL_law_1537 (by decide) dL_law_1542 dL_law_1544 (by decide) dL_law_1547 dL_law_1548 dL_law_1549 dL_law_1550 dL_law_1552 dL_law_1553 dL_law_1554 (by decide) dL_law_1559 (by decide) hcl kk
set_option maxHeartbeats 4000000 in
set_option maxRecDepth 100000 in
theorem law_k25 (F : lwF p_ l s m meth c b L xs G) (Z : lwZ s zc zm o) {n d k t v : Nat} (hs : sX q p n d k t v) (hH : lwH G s zc zm o q p g H locs) (hl : lv_has ls 7 (lwLs b zc zm o i)) (hi : 4 * i + 4 ≤ L) (hcl : cells + 5 ≤ 601024 ∧ slots + 30 ≤ 7293034) (kk : lwGo p_ l e_ s m b below meth c G zc zm o i (cells + 5) (slots + 30) Q) : W p_ l e_ room_1 s m #[Value.ref b] below meth c H locs cells slots Q (F0 m 1562 ls []) := by
  obtain ⟨⟨hx, hb, -⟩, hfl, -⟩ := id F
  obtain ⟨-, hn2, -, -, -, hk2, -, ht2, -⟩ := id hs.1.ok
  have hsim := sim_heals hs (xs (4 * i + 1)) (xs (4 * i + 2))
  refine lv_aload_n hx hb dL_law_1562 rfl (lv_at hl 3 rfl) ?_
  refine law_arg (i := i) (j := 1) F hH hl 4 0 rfl rfl (by omega) (by decide +kernel) dL_law_1563 dL_law_1564 dL_law_1566 dL_law_1567 dL_law_1568 ?_
  refine law_arg (i := i) (j := 2) F hH hl 4 0 rfl rfl (by omega) (by decide +kernel) dL_law_1569 dL_law_1570 dL_law_1572 dL_law_1573 dL_law_1574 ?_
  refine lv_aload_n hx hb dL_law_1575 rfl (lv_at hl 1 rfl) ?_
  refine law_c1 (As := [.ref (zc 0), .int (xs (4 * i + 1)), .int (xs (4 * i + 2)), .ref o]) (rest := []) F Z hsim hH (c_L_heals l hfl G _ zc Z.1 q.1 q.2 hH.1 o g hH.2.2.1 Z.2.2.2.1 (xs (4 * i + 1)) (xs (4 * i + 2)) (kT01 (kB01 _ _) (kR01 _))) (vx_cwSW 4 (law_S0 F).2.2.2.2 gL_law_L_heals rfl rfl rfl (by decide +kernel) ⟨Nat.le_of_ble_eq_true rfl, Nat.le_of_ble_eq_true rfl⟩) rfl hl.1 dL_law_1576 (Nat.le_of_ble_eq_true rfl) ⟨by omega, by omega⟩ (fun g H locs hH hg => ?_)
  refine lv_istore (lv' := (5, .int _) :: lwLs b zc zm o i) hx hb dL_law_1579 hl (by decide) rfl (fun ls hl => ?_)
  refine lv_aload_n hx hb dL_law_1581 rfl (lv_at hl 3 rfl) ?_
  refine law_arg (i := i) (j := 1) F hH hl 5 1 rfl rfl (by omega) (by decide +kernel) dL_law_1582 dL_law_1583 dL_law_1585 dL_law_1586 dL_law_1587 ?_
  refine law_arg (i := i) (j := 2) F hH hl 5 1 rfl rfl (by omega) (by decide +kernel) dL_law_1588 dL_law_1589 dL_law_1591 dL_law_1592 dL_law_1593 ?_
  refine law_c2 (As := [.int (xs (4 * i + 1)), .int (xs (4 * i + 2))]) (rest := []) F Z hsim hH (c_X7_heals l G _ zm Z.2.1 p.1 p.2 hH.2.1 (xs (4 * i + 1)) (xs (4 * i + 2)) n d k t hs.1.ok) (cwV 2 (law_S0 F).2.2.2.2 gL_law_X7_heals rfl rfl rfl (by decide +kernel) ⟨Nat.le_of_ble_eq_true rfl, Nat.le_of_ble_eq_true rfl⟩) rfl hl.1 dL_law_1594 (Nat.le_of_ble_eq_true rfl) ⟨by omega, by omega⟩ (fun H locs hH => ?_)
  refine W.widen (k := cells + 5) (n := slots + 30) (by omega) (by omega) ?_
  exact law_tb (t13 := 1610) (t23 := 1627) (t24 := 1628) (t30 := 1634) F hsim hH hg hl dL_law_1597 dL_law_1599 dL_law_1600 dL_law_1603 dL_law_1605 (by decide) dL_law_1610 dL_law_1612 (by decide) dL_law_1615 dL_law_1616 dL_law_1617 dL_law_1618 dL_law_1620 (by decide) dL_law_1623 dL_law_1624 (by decide) dL_law_1627 rfl dL_law_1628 dL_law_1629 (by decide) dL_law_1634 (by decide) hcl kk
set_option maxHeartbeats 4000000 in
set_option maxRecDepth 100000 in
theorem law_k26 (F : lwF p_ l s m meth c b L xs G) (Z : lwZ s zc zm o) {n d k t v : Nat} (hs : sX q p n d k t v) (hH : lwH G s zc zm o q p g H locs) (hl : lv_has ls 7 (lwLs b zc zm o i)) (hi : 4 * i + 4 ≤ L) (hcl : cells + 5 ≤ 601024 ∧ slots + 30 ≤ 7293034) (kk : lwGo p_ l e_ s m b below meth c G zc zm o i (cells + 5) (slots + 30) Q) : W p_ l e_ room_1 s m #[Value.ref b] below meth c H locs cells slots Q (F0 m 1637 ls []) := by
  obtain ⟨⟨hx, hb, -⟩, hfl, -⟩ := id F
  obtain ⟨-, hn2, -, -, -, hk2, -, ht2, -⟩ := id hs.1.ok
  have hsim := sim_trace hs (xs (4 * i + 1))
  refine lv_aload_n hx hb dL_law_1637 rfl (lv_at hl 3 rfl) ?_
  refine law_arg (i := i) (j := 1) F hH hl 4 0 rfl rfl (by omega) (by decide +kernel) dL_law_1638 dL_law_1639 dL_law_1641 dL_law_1642 dL_law_1643 ?_
  refine lv_aload_n hx hb dL_law_1644 rfl (lv_at hl 1 rfl) ?_
  refine law_c1 (As := [.ref (zc 0), .int (xs (4 * i + 1)), .ref o]) (rest := []) F Z hsim hH (c_L_trace l hfl G _ zc Z.1 q.1 q.2 hH.1 o g hH.2.2.1 Z.2.2.2.1 (xs (4 * i + 1)) (kR01 _)) (vx_cwSW 3 (law_S0 F).2.2.2.2 gL_law_L_trace rfl rfl rfl (by decide +kernel) ⟨Nat.le_of_ble_eq_true rfl, Nat.le_of_ble_eq_true rfl⟩) rfl hl.1 dL_law_1645 (Nat.le_of_ble_eq_true rfl) ⟨by omega, by omega⟩ (fun g H locs hH hg => ?_)
  refine lv_istore (lv' := (5, .int _) :: lwLs b zc zm o i) hx hb dL_law_1648 hl (by decide) rfl (fun ls hl => ?_)
  refine lv_aload_n hx hb dL_law_1650 rfl (lv_at hl 3 rfl) ?_
  refine law_arg (i := i) (j := 1) F hH hl 5 1 rfl rfl (by omega) (by decide +kernel) dL_law_1651 dL_law_1652 dL_law_1654 dL_law_1655 dL_law_1656 ?_
  refine law_c2 (As := [.int (xs (4 * i + 1))]) (rest := []) F Z hsim hH (c_X7_trace l G _ zm Z.2.1 p.1 p.2 hH.2.1 (xs (4 * i + 1)) n d k t hs.1.ok) (cwV 1 (law_S0 F).2.2.2.2 gL_law_X7_trace rfl rfl rfl (by decide +kernel) ⟨Nat.le_of_ble_eq_true rfl, Nat.le_of_ble_eq_true rfl⟩) rfl hl.1 dL_law_1657 (Nat.le_of_ble_eq_true rfl) ⟨by omega, by omega⟩ (fun H locs hH => ?_)
  refine W.widen (k := cells + 5) (n := slots + 30) (by omega) (by omega) ?_
  exact law_ti (t13 := 1673) (t30 := 1690) F hsim hH hg hl dL_law_1660 dL_law_1662 dL_law_1663 dL_law_1666 dL_law_1668 (by decide) dL_law_1673 dL_law_1675 (by decide) dL_law_1678 dL_law_1679 dL_law_1680 dL_law_1681 dL_law_1683 dL_law_1684 dL_law_1685 (by decide) dL_law_1690 (by decide) hcl kk
set_option maxHeartbeats 4000000 in
set_option maxRecDepth 100000 in
theorem law_k27 (F : lwF p_ l s m meth c b L xs G) (Z : lwZ s zc zm o) {n d k t v : Nat} (hs : sX q p n d k t v) (hH : lwH G s zc zm o q p g H locs) (hl : lv_has ls 7 (lwLs b zc zm o i)) (hi : 4 * i + 4 ≤ L) (hcl : cells + 5 ≤ 601024 ∧ slots + 30 ≤ 7293034) (kk : lwGo p_ l e_ s m b below meth c G zc zm o i (cells + 5) (slots + 30) Q) : W p_ l e_ room_1 s m #[Value.ref b] below meth c H locs cells slots Q (F0 m 1693 ls []) := by
  obtain ⟨⟨hx, hb, -⟩, hfl, -⟩ := id F
  obtain ⟨-, hn2, -, -, -, hk2, -, ht2, -⟩ := id hs.1.ok
  have hsim := sim_try hs (xs (4 * i + 1))
  refine lv_aload_n hx hb dL_law_1693 rfl (lv_at hl 3 rfl) ?_
  refine law_arg (i := i) (j := 1) F hH hl 4 0 rfl rfl (by omega) (by decide +kernel) dL_law_1694 dL_law_1695 dL_law_1697 dL_law_1698 dL_law_1699 ?_
  refine lv_aload_n hx hb dL_law_1700 rfl (lv_at hl 1 rfl) ?_
  refine law_c1 (As := [.ref (zc 0), .int (xs (4 * i + 1)), .ref o]) (rest := []) F Z hsim hH (c_L_traceByTrying l hfl G _ zc Z.1 q.1 q.2 hH.1 o g hH.2.2.1 Z.2.2.2.1 (xs (4 * i + 1)) n hs.1.f3 hn2 (kR01 _)) (vx_cwSW 3 (law_S0 F).2.2.2.2 gL_law_L_traceByTrying rfl rfl rfl (by decide +kernel) ⟨Nat.le_of_ble_eq_true rfl, Nat.le_of_ble_eq_true rfl⟩) rfl hl.1 dL_law_1701 (Nat.le_of_ble_eq_true rfl) ⟨by omega, by omega⟩ (fun g H locs hH hg => ?_)
  refine lv_istore (lv' := (5, .int _) :: lwLs b zc zm o i) hx hb dL_law_1704 hl (by decide) rfl (fun ls hl => ?_)
  refine lv_aload_n hx hb dL_law_1706 rfl (lv_at hl 3 rfl) ?_
  refine law_arg (i := i) (j := 1) F hH hl 5 1 rfl rfl (by omega) (by decide +kernel) dL_law_1707 dL_law_1708 dL_law_1710 dL_law_1711 dL_law_1712 ?_
  refine law_c2 (As := [.int (xs (4 * i + 1))]) (rest := []) F Z hsim hH (c_X7_traceByTrying l G _ zm Z.2.1 p.1 p.2 hH.2.1 (xs (4 * i + 1)) n d k t hs.1.ok) (cwV 1 (law_S0 F).2.2.2.2 gL_law_X7_traceByTrying rfl rfl rfl (by decide +kernel) ⟨Nat.le_of_ble_eq_true rfl, Nat.le_of_ble_eq_true rfl⟩) rfl hl.1 dL_law_1713 (Nat.le_of_ble_eq_true rfl) ⟨by omega, by omega⟩ (fun H locs hH => ?_)
  refine W.widen (k := cells + 5) (n := slots + 30) (by omega) (by omega) ?_
  exact law_ti (t13 := 1729) (t30 := 1746) F hsim hH hg hl dL_law_1716 dL_law_1718 dL_law_1719 dL_law_1722 dL_law_1724 (by decide) dL_law_1729 dL_law_1731 (by decide) dL_law_1734 dL_law_1735 dL_law_1736 dL_law_1737 dL_law_1739 dL_law_1740 dL_law_1741 (by decide) dL_law_1746 (by decide) hcl kk
set_option maxHeartbeats 4000000 in
set_option maxRecDepth 100000 in
theorem law_k28 (F : lwF p_ l s m meth c b L xs G) (Z : lwZ s zc zm o) {n d k t v : Nat} (hs : sX q p n d k t v) (hH : lwH G s zc zm o q p g H locs) (hl : lv_has ls 7 (lwLs b zc zm o i)) (hi : 4 * i + 4 ≤ L) (hcl : cells + 5 ≤ 601024 ∧ slots + 30 ≤ 7293034) (kk : lwGo p_ l e_ s m b below meth c G zc zm o i (cells + 5) (slots + 30) Q) : W p_ l e_ room_1 s m #[Value.ref b] below meth c H locs cells slots Q (F0 m 1749 ls []) := by
  have hM := id hs.1.ok
  refine W.widen (k := cells + 5) (n := slots + 30) (by omega) (by omega) ?_
  exact law_td F Z (hs.thr (nI 0)) hH hl (hs.1.f4.trans hM.2.2.2.2.1.symm) (c_X6_incidents l G _ zc q.1 q.2 hH.1) (cwV 0 (law_S0 F).2.2.2.2 gL_law_X6_incidents rfl rfl rfl (by decide +kernel) ⟨Nat.le_of_ble_eq_true rfl, Nat.le_of_ble_eq_true rfl⟩) (c_X7_incidents l G _ zm Z.2.1 p.1 p.2 hH.2.1 n d k t hs.1.ok) (cwV 0 (law_S0 F).2.2.2.2 gL_law_X7_incidents rfl rfl rfl (by decide +kernel) ⟨Nat.le_of_ble_eq_true rfl, Nat.le_of_ble_eq_true rfl⟩) dL_law_1749 dL_law_1750 dL_law_1753 dL_law_1754 dL_law_1757 (by decide) hcl kk
set_option maxHeartbeats 4000000 in
set_option maxRecDepth 100000 in
theorem law_k29 (F : lwF p_ l s m meth c b L xs G) (Z : lwZ s zc zm o) {n d k t v : Nat} (hs : sX q p n d k t v) (hH : lwH G s zc zm o q p g H locs) (hl : lv_has ls 7 (lwLs b zc zm o i)) (hi : 4 * i + 4 ≤ L) (hcl : cells + 5 ≤ 601024 ∧ slots + 30 ≤ 7293034) (kk : lwGo p_ l e_ s m b below meth c G zc zm o i (cells + 5) (slots + 30) Q) : W p_ l e_ room_1 s m #[Value.ref b] below meth c H locs cells slots Q (F0 m 1762 ls []) := by
  obtain ⟨⟨hx, hb, -⟩, hfl, -⟩ := id F
  obtain ⟨-, hn2, -, -, -, hk2, -, ht2, -⟩ := id hs.1.ok
  have hsim := sim_openIn hs (xs (4 * i + 1))
  refine lv_aload_n hx hb dL_law_1762 rfl (lv_at hl 3 rfl) ?_
  refine law_arg (i := i) (j := 1) F hH hl 4 0 rfl rfl (by omega) (by decide +kernel) dL_law_1763 dL_law_1764 dL_law_1766 dL_law_1767 dL_law_1768 ?_
  refine lv_aload_n hx hb dL_law_1769 rfl (lv_at hl 1 rfl) ?_
  refine law_c1 (As := [.ref (zc 0), .int (xs (4 * i + 1)), .ref o]) (rest := []) F Z hsim hH (c_L_openIn l hfl G _ zc Z.1 q.1 q.2 hH.1 o g hH.2.2.1 Z.2.2.2.1 (xs (4 * i + 1)) (kR01 _)) (vx_cwSW 3 (law_S0 F).2.2.2.2 gL_law_L_openIn rfl rfl rfl (by decide +kernel) ⟨Nat.le_of_ble_eq_true rfl, Nat.le_of_ble_eq_true rfl⟩) rfl hl.1 dL_law_1770 (Nat.le_of_ble_eq_true rfl) ⟨by omega, by omega⟩ (fun g H locs hH hg => ?_)
  refine lv_istore (lv' := (5, .int _) :: lwLs b zc zm o i) hx hb dL_law_1773 hl (by decide) rfl (fun ls hl => ?_)
  refine lv_aload_n hx hb dL_law_1775 rfl (lv_at hl 3 rfl) ?_
  refine law_arg (i := i) (j := 1) F hH hl 5 1 rfl rfl (by omega) (by decide +kernel) dL_law_1776 dL_law_1777 dL_law_1779 dL_law_1780 dL_law_1781 ?_
  refine law_c2 (As := [.int (xs (4 * i + 1))]) (rest := []) F Z hsim hH (c_X7_openIn l G _ zm Z.2.1 p.1 p.2 hH.2.1 (xs (4 * i + 1)) n d k t hs.1.ok) (cwV 1 (law_S0 F).2.2.2.2 gL_law_X7_openIn rfl rfl rfl (by decide +kernel) ⟨Nat.le_of_ble_eq_true rfl, Nat.le_of_ble_eq_true rfl⟩) rfl hl.1 dL_law_1782 (Nat.le_of_ble_eq_true rfl) ⟨by omega, by omega⟩ (fun H locs hH => ?_)
  refine W.widen (k := cells + 5) (n := slots + 30) (by omega) (by omega) ?_
  exact law_ti (t13 := 1798) (t30 := 1815) F hsim hH hg hl dL_law_1785 dL_law_1787 dL_law_1788 dL_law_1791 dL_law_1793 (by decide) dL_law_1798 dL_law_1800 (by decide) dL_law_1803 dL_law_1804 dL_law_1805 dL_law_1806 dL_law_1808 dL_law_1809 dL_law_1810 (by decide) dL_law_1815 (by decide) hcl kk
set_option maxHeartbeats 4000000 in
set_option maxRecDepth 100000 in
theorem law_k30 (F : lwF p_ l s m meth c b L xs G) (Z : lwZ s zc zm o) {n d k t v : Nat} (hs : sX q p n d k t v) (hH : lwH G s zc zm o q p g H locs) (hl : lv_has ls 7 (lwLs b zc zm o i)) (hi : 4 * i + 4 ≤ L) (hcl : cells + 5 ≤ 601024 ∧ slots + 30 ≤ 7293034) (kk : lwGo p_ l e_ s m b below meth c G zc zm o i (cells + 5) (slots + 30) Q) : W p_ l e_ room_1 s m #[Value.ref b] below meth c H locs cells slots Q (F0 m 1818 ls []) := by
  obtain ⟨⟨hx, hb, -⟩, hfl, -⟩ := id F
  obtain ⟨-, hn2, -, -, -, hk2, -, ht2, -⟩ := id hs.1.ok
  have hsim := sim_openedAt hs (xs (4 * i + 1))
  refine lv_aload_n hx hb dL_law_1818 rfl (lv_at hl 3 rfl) ?_
  refine law_arg (i := i) (j := 1) F hH hl 4 0 rfl rfl (by omega) (by decide +kernel) dL_law_1819 dL_law_1820 dL_law_1822 dL_law_1823 dL_law_1824 ?_
  refine lv_aload_n hx hb dL_law_1825 rfl (lv_at hl 1 rfl) ?_
  refine law_c1 (As := [.ref (zc 0), .int (xs (4 * i + 1)), .ref o]) (rest := []) F Z hsim hH (c_L_openedAt l hfl G _ zc Z.1 q.1 q.2 hH.1 o g hH.2.2.1 Z.2.2.2.1 (xs (4 * i + 1)) (kB01 _ _)) (vx_cwSW 3 (law_S0 F).2.2.2.2 gL_law_L_openedAt rfl rfl rfl (by decide +kernel) ⟨Nat.le_of_ble_eq_true rfl, Nat.le_of_ble_eq_true rfl⟩) rfl hl.1 dL_law_1826 (Nat.le_of_ble_eq_true rfl) ⟨by omega, by omega⟩ (fun g H locs hH hg => ?_)
  refine lv_istore (lv' := (5, .int _) :: lwLs b zc zm o i) hx hb dL_law_1829 hl (by decide) rfl (fun ls hl => ?_)
  refine lv_aload_n hx hb dL_law_1831 rfl (lv_at hl 3 rfl) ?_
  refine law_arg (i := i) (j := 1) F hH hl 5 1 rfl rfl (by omega) (by decide +kernel) dL_law_1832 dL_law_1833 dL_law_1835 dL_law_1836 dL_law_1837 ?_
  refine law_c2 (As := [.int (xs (4 * i + 1))]) (rest := []) F Z hsim hH (c_X7_openedAt l G _ zm Z.2.1 p.1 p.2 hH.2.1 (xs (4 * i + 1)) n d k t hs.1.ok) (cwV 1 (law_S0 F).2.2.2.2 gL_law_X7_openedAt rfl rfl rfl (by decide +kernel) ⟨Nat.le_of_ble_eq_true rfl, Nat.le_of_ble_eq_true rfl⟩) rfl hl.1 dL_law_1838 (Nat.le_of_ble_eq_true rfl) ⟨by omega, by omega⟩ (fun H locs hH => ?_)
  refine W.widen (k := cells + 5) (n := slots + 30) (by omega) (by omega) ?_
  exact law_ti (t13 := 1854) (t30 := 1871) F hsim hH hg hl dL_law_1841 dL_law_1843 dL_law_1844 dL_law_1847 dL_law_1849 (by decide) dL_law_1854 dL_law_1856 (by decide) dL_law_1859 dL_law_1860 dL_law_1861 dL_law_1862 dL_law_1864 dL_law_1865 dL_law_1866 (by decide) dL_law_1871 (by decide) hcl kk
set_option maxHeartbeats 4000000 in
set_option maxRecDepth 100000 in
theorem law_k31 (F : lwF p_ l s m meth c b L xs G) (Z : lwZ s zc zm o) {n d k t v : Nat} (hs : sX q p n d k t v) (hH : lwH G s zc zm o q p g H locs) (hl : lv_has ls 7 (lwLs b zc zm o i)) (hi : 4 * i + 4 ≤ L) (hcl : cells + 5 ≤ 601024 ∧ slots + 30 ≤ 7293034) (kk : lwGo p_ l e_ s m b below meth c G zc zm o i (cells + 5) (slots + 30) Q) : W p_ l e_ room_1 s m #[Value.ref b] below meth c H locs cells slots Q (F0 m 1874 ls []) := by
  obtain ⟨⟨hx, hb, -⟩, hfl, -⟩ := id F
  obtain ⟨-, hn2, -, -, -, hk2, -, ht2, -⟩ := id hs.1.ok
  have hsim := sim_closedAt hs (xs (4 * i + 1))
  refine lv_aload_n hx hb dL_law_1874 rfl (lv_at hl 3 rfl) ?_
  refine law_arg (i := i) (j := 1) F hH hl 4 0 rfl rfl (by omega) (by decide +kernel) dL_law_1875 dL_law_1876 dL_law_1878 dL_law_1879 dL_law_1880 ?_
  refine lv_aload_n hx hb dL_law_1881 rfl (lv_at hl 1 rfl) ?_
  refine law_c1 (As := [.ref (zc 0), .int (xs (4 * i + 1)), .ref o]) (rest := []) F Z hsim hH (c_L_closedAt l hfl G _ zc Z.1 q.1 q.2 hH.1 o g hH.2.2.1 Z.2.2.2.1 (xs (4 * i + 1)) (kB01 _ _)) (vx_cwSW 3 (law_S0 F).2.2.2.2 gL_law_L_closedAt rfl rfl rfl (by decide +kernel) ⟨Nat.le_of_ble_eq_true rfl, Nat.le_of_ble_eq_true rfl⟩) rfl hl.1 dL_law_1882 (Nat.le_of_ble_eq_true rfl) ⟨by omega, by omega⟩ (fun g H locs hH hg => ?_)
  refine lv_istore (lv' := (5, .int _) :: lwLs b zc zm o i) hx hb dL_law_1885 hl (by decide) rfl (fun ls hl => ?_)
  refine lv_aload_n hx hb dL_law_1887 rfl (lv_at hl 3 rfl) ?_
  refine law_arg (i := i) (j := 1) F hH hl 5 1 rfl rfl (by omega) (by decide +kernel) dL_law_1888 dL_law_1889 dL_law_1891 dL_law_1892 dL_law_1893 ?_
  refine law_c2 (As := [.int (xs (4 * i + 1))]) (rest := []) F Z hsim hH (c_X7_closedAt l G _ zm Z.2.1 p.1 p.2 hH.2.1 (xs (4 * i + 1)) n d k t hs.1.ok) (cwV 1 (law_S0 F).2.2.2.2 gL_law_X7_closedAt rfl rfl rfl (by decide +kernel) ⟨Nat.le_of_ble_eq_true rfl, Nat.le_of_ble_eq_true rfl⟩) rfl hl.1 dL_law_1894 (Nat.le_of_ble_eq_true rfl) ⟨by omega, by omega⟩ (fun H locs hH => ?_)
  refine W.widen (k := cells + 5) (n := slots + 30) (by omega) (by omega) ?_
  exact law_ti (t13 := 1910) (t30 := 1927) F hsim hH hg hl dL_law_1897 dL_law_1899 dL_law_1900 dL_law_1903 dL_law_1905 (by decide) dL_law_1910 dL_law_1912 (by decide) dL_law_1915 dL_law_1916 dL_law_1917 dL_law_1918 dL_law_1920 dL_law_1921 dL_law_1922 (by decide) dL_law_1927 (by decide) hcl kk
set_option maxHeartbeats 4000000 in
set_option maxRecDepth 100000 in
theorem law_k32 (F : lwF p_ l s m meth c b L xs G) (Z : lwZ s zc zm o) {n d k t v : Nat} (hs : sX q p n d k t v) (hH : lwH G s zc zm o q p g H locs) (hl : lv_has ls 7 (lwLs b zc zm o i)) (hi : 4 * i + 4 ≤ L) (hcl : cells + 5 ≤ 601024 ∧ slots + 30 ≤ 7293034) (kk : lwGo p_ l e_ s m b below meth c G zc zm o i (cells + 5) (slots + 30) Q) : W p_ l e_ room_1 s m #[Value.ref b] below meth c H locs cells slots Q (F0 m 1930 ls []) := by
  obtain ⟨⟨hx, hb, -⟩, hfl, -⟩ := id F
  obtain ⟨-, hn2, -, -, -, hk2, -, ht2, -⟩ := id hs.1.ok
  have hsim := sim_tracedTo hs (xs (4 * i + 1))
  refine lv_aload_n hx hb dL_law_1930 rfl (lv_at hl 3 rfl) ?_
  refine law_arg (i := i) (j := 1) F hH hl 4 0 rfl rfl (by omega) (by decide +kernel) dL_law_1931 dL_law_1932 dL_law_1934 dL_law_1935 dL_law_1936 ?_
  refine lv_aload_n hx hb dL_law_1937 rfl (lv_at hl 1 rfl) ?_
  refine law_c1 (As := [.ref (zc 0), .int (xs (4 * i + 1)), .ref o]) (rest := []) F Z hsim hH (c_L_tracedTo l hfl G _ zc Z.1 q.1 q.2 hH.1 o g hH.2.2.1 Z.2.2.2.1 (xs (4 * i + 1)) (kB01 _ _)) (vx_cwSW 3 (law_S0 F).2.2.2.2 gL_law_L_tracedTo rfl rfl rfl (by decide +kernel) ⟨Nat.le_of_ble_eq_true rfl, Nat.le_of_ble_eq_true rfl⟩) rfl hl.1 dL_law_1938 (Nat.le_of_ble_eq_true rfl) ⟨by omega, by omega⟩ (fun g H locs hH hg => ?_)
  refine lv_istore (lv' := (5, .int _) :: lwLs b zc zm o i) hx hb dL_law_1941 hl (by decide) rfl (fun ls hl => ?_)
  refine lv_aload_n hx hb dL_law_1943 rfl (lv_at hl 3 rfl) ?_
  refine law_arg (i := i) (j := 1) F hH hl 5 1 rfl rfl (by omega) (by decide +kernel) dL_law_1944 dL_law_1945 dL_law_1947 dL_law_1948 dL_law_1949 ?_
  refine law_c2 (As := [.int (xs (4 * i + 1))]) (rest := []) F Z hsim hH (c_X7_tracedTo l G _ zm Z.2.1 p.1 p.2 hH.2.1 (xs (4 * i + 1)) n d k t hs.1.ok) (cwV 1 (law_S0 F).2.2.2.2 gL_law_X7_tracedTo rfl rfl rfl (by decide +kernel) ⟨Nat.le_of_ble_eq_true rfl, Nat.le_of_ble_eq_true rfl⟩) rfl hl.1 dL_law_1950 (Nat.le_of_ble_eq_true rfl) ⟨by omega, by omega⟩ (fun H locs hH => ?_)
  refine W.widen (k := cells + 5) (n := slots + 30) (by omega) (by omega) ?_
  exact law_ti (t13 := 1966) (t30 := 1983) F hsim hH hg hl dL_law_1953 dL_law_1955 dL_law_1956 dL_law_1959 dL_law_1961 (by decide) dL_law_1966 dL_law_1968 (by decide) dL_law_1971 dL_law_1972 dL_law_1973 dL_law_1974 dL_law_1976 dL_law_1977 dL_law_1978 (by decide) dL_law_1983 (by decide) hcl kk
set_option maxHeartbeats 4000000 in
set_option maxRecDepth 100000 in
theorem law_k33 (F : lwF p_ l s m meth c b L xs G) (Z : lwZ s zc zm o) {n d k t v : Nat} (hs : sX q p n d k t v) (hH : lwH G s zc zm o q p g H locs) (hl : lv_has ls 7 (lwLs b zc zm o i)) (hi : 4 * i + 4 ≤ L) (hcl : cells + 5 ≤ 601024 ∧ slots + 30 ≤ 7293034) (kk : lwGo p_ l e_ s m b below meth c G zc zm o i (cells + 5) (slots + 30) Q) : W p_ l e_ room_1 s m #[Value.ref b] below meth c H locs cells slots Q (F0 m 1986 ls []) := by
  obtain ⟨⟨hx, hb, -⟩, hfl, -⟩ := id F
  obtain ⟨-, hn2, -, -, -, hk2, -, ht2, -⟩ := id hs.1.ok
  have hsim := sim_firstCalled hs (xs (4 * i + 1))
  refine lv_aload_n hx hb dL_law_1986 rfl (lv_at hl 3 rfl) ?_
  refine law_arg (i := i) (j := 1) F hH hl 4 0 rfl rfl (by omega) (by decide +kernel) dL_law_1987 dL_law_1988 dL_law_1990 dL_law_1991 dL_law_1992 ?_
  refine lv_aload_n hx hb dL_law_1993 rfl (lv_at hl 1 rfl) ?_
  refine law_c1 (As := [.ref (zc 0), .int (xs (4 * i + 1)), .ref o]) (rest := []) F Z hsim hH (c_L_firstCalled l hfl G _ zc Z.1 q.1 q.2 hH.1 o g hH.2.2.1 Z.2.2.2.1 (xs (4 * i + 1)) (kB01 _ _)) (vx_cwSW 3 (law_S0 F).2.2.2.2 gL_law_L_firstCalled rfl rfl rfl (by decide +kernel) ⟨Nat.le_of_ble_eq_true rfl, Nat.le_of_ble_eq_true rfl⟩) rfl hl.1 dL_law_1994 (Nat.le_of_ble_eq_true rfl) ⟨by omega, by omega⟩ (fun g H locs hH hg => ?_)
  refine lv_istore (lv' := (5, .int _) :: lwLs b zc zm o i) hx hb dL_law_1997 hl (by decide) rfl (fun ls hl => ?_)
  refine lv_aload_n hx hb dL_law_1999 rfl (lv_at hl 3 rfl) ?_
  refine law_arg (i := i) (j := 1) F hH hl 5 1 rfl rfl (by omega) (by decide +kernel) dL_law_2000 dL_law_2001 dL_law_2003 dL_law_2004 dL_law_2005 ?_
  refine law_c2 (As := [.int (xs (4 * i + 1))]) (rest := []) F Z hsim hH (c_X7_firstCalled l G _ zm Z.2.1 p.1 p.2 hH.2.1 (xs (4 * i + 1)) n d k t hs.1.ok) (cwV 1 (law_S0 F).2.2.2.2 gL_law_X7_firstCalled rfl rfl rfl (by decide +kernel) ⟨Nat.le_of_ble_eq_true rfl, Nat.le_of_ble_eq_true rfl⟩) rfl hl.1 dL_law_2006 (Nat.le_of_ble_eq_true rfl) ⟨by omega, by omega⟩ (fun H locs hH => ?_)
  refine W.widen (k := cells + 5) (n := slots + 30) (by omega) (by omega) ?_
  exact law_ti (t13 := 2022) (t30 := 2039) F hsim hH hg hl dL_law_2009 dL_law_2011 dL_law_2012 dL_law_2015 dL_law_2017 (by decide) dL_law_2022 dL_law_2024 (by decide) dL_law_2027 dL_law_2028 dL_law_2029 dL_law_2030 dL_law_2032 dL_law_2033 dL_law_2034 (by decide) dL_law_2039 (by decide) hcl kk
end S99
