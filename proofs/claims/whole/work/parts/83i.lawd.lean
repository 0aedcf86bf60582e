theorem dL_law_1581 : decode cL_law 1581 = .ok (.iadd, 1) := by decide +kernel
theorem dL_law_1582 : decode cL_law 1582 = .ok (.iaload, 1) := by decide +kernel
theorem dL_law_1583 : decode cL_law 1583 = .ok (.invokevirtual 179, 3) := by decide +kernel
theorem dL_law_1586 : decode cL_law 1586 = .ok (.fstore 7, 2) := by decide +kernel
theorem dL_law_1588 : decode cL_law 1588 = .ok (.aload_n 2, 1) := by decide +kernel
theorem dL_law_1589 : decode cL_law 1589 = .ok (.invokevirtual 99, 3) := by decide +kernel
theorem dL_law_1592 : decode cL_law 1592 = .ok (.iload 6, 2) := by decide +kernel
theorem dL_law_1594 : decode cL_law 1594 = .ok (.if_icmp .eq 5, 3) := by decide +kernel
theorem dL_law_1597 : decode cL_law 1597 = .ok (.iconst 0, 1) := by decide +kernel
theorem dL_law_1598 : decode cL_law 1598 = .ok (.ireturn, 1) := by decide +kernel
theorem dL_law_1599 : decode cL_law 1599 = .ok (.iload 6, 2) := by decide +kernel
theorem dL_law_1601 : decode cL_law 1601 = .ok (.ifCond .ne 36, 3) := by decide +kernel
theorem dL_law_1604 : decode cL_law 1604 = .ok (.aload 4, 2) := by decide +kernel
theorem dL_law_1606 : decode cL_law 1606 = .ok (.iconst 0, 1) := by decide +kernel
theorem dL_law_1607 : decode cL_law 1607 = .ok (.daload, 1) := by decide +kernel
theorem dL_law_1608 : decode cL_law 1608 = .ok (.fload 7, 2) := by decide +kernel
theorem dL_law_1610 : decode cL_law 1610 = .ok (.f2d, 1) := by decide +kernel
theorem dL_law_1611 : decode cL_law 1611 = .ok (.dcmp .l, 1) := by decide +kernel
theorem dL_law_1612 : decode cL_law 1612 = .ok (.ifCond .eq 25, 3) := by decide +kernel
theorem dL_law_1615 : decode cL_law 1615 = .ok (.aload 4, 2) := by decide +kernel
theorem dL_law_1617 : decode cL_law 1617 = .ok (.iconst 0, 1) := by decide +kernel
theorem dL_law_1618 : decode cL_law 1618 = .ok (.daload, 1) := by decide +kernel
theorem dL_law_1619 : decode cL_law 1619 = .ok (.aload 4, 2) := by decide +kernel
theorem dL_law_1621 : decode cL_law 1621 = .ok (.iconst 0, 1) := by decide +kernel
theorem dL_law_1622 : decode cL_law 1622 = .ok (.daload, 1) := by decide +kernel
theorem dL_law_1623 : decode cL_law 1623 = .ok (.dcmp .l, 1) := by decide +kernel
theorem dL_law_1624 : decode cL_law 1624 = .ok (.ifCond .eq 11, 3) := by decide +kernel
theorem dL_law_1627 : decode cL_law 1627 = .ok (.fload 7, 2) := by decide +kernel
theorem dL_law_1629 : decode cL_law 1629 = .ok (.fload 7, 2) := by decide +kernel
theorem dL_law_1631 : decode cL_law 1631 = .ok (.fcmp .l, 1) := by decide +kernel
theorem dL_law_1632 : decode cL_law 1632 = .ok (.ifCond .ne 5, 3) := by decide +kernel
theorem dL_law_1635 : decode cL_law 1635 = .ok (.iconst 0, 1) := by decide +kernel
theorem dL_law_1636 : decode cL_law 1636 = .ok (.ireturn, 1) := by decide +kernel
theorem dL_law_1637 : decode cL_law 1637 = .ok (.goto 3, 3) := by decide +kernel
theorem dL_law_1640 : decode cL_law 1640 = .ok (.iinc 5 5, 3) := by decide +kernel
theorem dL_law_1643 : decode cL_law 1643 = .ok (.goto (-1615), 3) := by decide +kernel
theorem dL_law_1646 : decode cL_law 1646 = .ok (.iconst 1, 1) := by decide +kernel
theorem dL_law_1647 : decode cL_law 1647 = .ok (.ireturn, 1) := by decide +kernel
