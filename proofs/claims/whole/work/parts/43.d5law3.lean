theorem d_L_law_1435 : decode b_L_law 1435 = .ok (.aload_n 0, 1) := by decide +kernel
theorem d_L_law_1436 : decode b_L_law 1436 = .ok (.iload 4, 2) := by decide +kernel
theorem d_L_law_1438 : decode b_L_law 1438 = .ok (.iconst 2, 1) := by decide +kernel
theorem d_L_law_1439 : decode b_L_law 1439 = .ok (.iadd, 1) := by decide +kernel
theorem d_L_law_1440 : decode b_L_law 1440 = .ok (.iaload, 1) := by decide +kernel
theorem d_L_law_1441 : decode b_L_law 1441 = .ok (.aload_n 0, 1) := by decide +kernel
theorem d_L_law_1442 : decode b_L_law 1442 = .ok (.iload 4, 2) := by decide +kernel
theorem d_L_law_1444 : decode b_L_law 1444 = .ok (.iconst 3, 1) := by decide +kernel
theorem d_L_law_1445 : decode b_L_law 1445 = .ok (.iadd, 1) := by decide +kernel
theorem d_L_law_1446 : decode b_L_law 1446 = .ok (.iaload, 1) := by decide +kernel
theorem d_L_law_1447 : decode b_L_law 1447 = .ok (.aload_n 0, 1) := by decide +kernel
theorem d_L_law_1448 : decode b_L_law 1448 = .ok (.iload 4, 2) := by decide +kernel
theorem d_L_law_1450 : decode b_L_law 1450 = .ok (.iconst 4, 1) := by decide +kernel
theorem d_L_law_1451 : decode b_L_law 1451 = .ok (.iadd, 1) := by decide +kernel
theorem d_L_law_1452 : decode b_L_law 1452 = .ok (.iaload, 1) := by decide +kernel
theorem d_L_law_1453 : decode b_L_law 1453 = .ok (.aload_n 3, 1) := by decide +kernel
theorem d_L_law_1454 : decode b_L_law 1454 = .ok (.invokestatic 163, 3) := by decide +kernel
theorem d_L_law_1457 : decode b_L_law 1457 = .ok (.istore 5, 2) := by decide +kernel
theorem d_L_law_1459 : decode b_L_law 1459 = .ok (.aload_n 2, 1) := by decide +kernel
theorem d_L_law_1460 : decode b_L_law 1460 = .ok (.aload_n 0, 1) := by decide +kernel
theorem d_L_law_1461 : decode b_L_law 1461 = .ok (.iload 4, 2) := by decide +kernel
theorem d_L_law_1463 : decode b_L_law 1463 = .ok (.iconst 1, 1) := by decide +kernel
theorem d_L_law_1464 : decode b_L_law 1464 = .ok (.iadd, 1) := by decide +kernel
theorem d_L_law_1465 : decode b_L_law 1465 = .ok (.iaload, 1) := by decide +kernel
theorem d_L_law_1466 : decode b_L_law 1466 = .ok (.aload_n 0, 1) := by decide +kernel
theorem d_L_law_1467 : decode b_L_law 1467 = .ok (.iload 4, 2) := by decide +kernel
theorem d_L_law_1469 : decode b_L_law 1469 = .ok (.iconst 2, 1) := by decide +kernel
theorem d_L_law_1470 : decode b_L_law 1470 = .ok (.iadd, 1) := by decide +kernel
theorem d_L_law_1471 : decode b_L_law 1471 = .ok (.iaload, 1) := by decide +kernel
theorem d_L_law_1472 : decode b_L_law 1472 = .ok (.aload_n 0, 1) := by decide +kernel
theorem d_L_law_1473 : decode b_L_law 1473 = .ok (.iload 4, 2) := by decide +kernel
theorem d_L_law_1475 : decode b_L_law 1475 = .ok (.iconst 3, 1) := by decide +kernel
theorem d_L_law_1476 : decode b_L_law 1476 = .ok (.iadd, 1) := by decide +kernel
theorem d_L_law_1477 : decode b_L_law 1477 = .ok (.iaload, 1) := by decide +kernel
theorem d_L_law_1478 : decode b_L_law 1478 = .ok (.aload_n 0, 1) := by decide +kernel
theorem d_L_law_1479 : decode b_L_law 1479 = .ok (.iload 4, 2) := by decide +kernel
theorem d_L_law_1481 : decode b_L_law 1481 = .ok (.iconst 4, 1) := by decide +kernel
theorem d_L_law_1482 : decode b_L_law 1482 = .ok (.iadd, 1) := by decide +kernel
theorem d_L_law_1483 : decode b_L_law 1483 = .ok (.iaload, 1) := by decide +kernel
theorem d_L_law_1484 : decode b_L_law 1484 = .ok (.invokevirtual 165, 3) := by decide +kernel
theorem d_L_law_1487 : decode b_L_law 1487 = .ok (.istore 6, 2) := by decide +kernel
theorem d_L_law_1489 : decode b_L_law 1489 = .ok (.aload_n 2, 1) := by decide +kernel
theorem d_L_law_1490 : decode b_L_law 1490 = .ok (.invokevirtual 102, 3) := by decide +kernel
theorem d_L_law_1493 : decode b_L_law 1493 = .ok (.iload 5, 2) := by decide +kernel
theorem d_L_law_1495 : decode b_L_law 1495 = .ok (.if_icmp .eq 5, 3) := by decide +kernel
theorem d_L_law_1498 : decode b_L_law 1498 = .ok (.iconst 0, 1) := by decide +kernel
theorem d_L_law_1499 : decode b_L_law 1499 = .ok (.ireturn, 1) := by decide +kernel
theorem d_L_law_1500 : decode b_L_law 1500 = .ok (.iload 5, 2) := by decide +kernel
theorem d_L_law_1502 : decode b_L_law 1502 = .ok (.ifCond .ne 15, 3) := by decide +kernel
theorem d_L_law_1505 : decode b_L_law 1505 = .ok (.aload_n 3, 1) := by decide +kernel
theorem d_L_law_1506 : decode b_L_law 1506 = .ok (.iconst 0, 1) := by decide +kernel
theorem d_L_law_1507 : decode b_L_law 1507 = .ok (.laload, 1) := by decide +kernel
theorem d_L_law_1508 : decode b_L_law 1508 = .ok (.iload 6, 2) := by decide +kernel
theorem d_L_law_1510 : decode b_L_law 1510 = .ok (.i2l, 1) := by decide +kernel
theorem d_L_law_1511 : decode b_L_law 1511 = .ok (.lcmp, 1) := by decide +kernel
theorem d_L_law_1512 : decode b_L_law 1512 = .ok (.ifCond .eq 5, 3) := by decide +kernel
theorem d_L_law_1515 : decode b_L_law 1515 = .ok (.iconst 0, 1) := by decide +kernel
theorem d_L_law_1516 : decode b_L_law 1516 = .ok (.ireturn, 1) := by decide +kernel
theorem d_L_law_1517 : decode b_L_law 1517 = .ok (.goto 251, 3) := by decide +kernel
theorem d_L_law_1520 : decode b_L_law 1520 = .ok (.aload_n 1, 1) := by decide +kernel
theorem d_L_law_1521 : decode b_L_law 1521 = .ok (.aload_n 0, 1) := by decide +kernel
theorem d_L_law_1522 : decode b_L_law 1522 = .ok (.iload 4, 2) := by decide +kernel
theorem d_L_law_1524 : decode b_L_law 1524 = .ok (.iconst 1, 1) := by decide +kernel
theorem d_L_law_1525 : decode b_L_law 1525 = .ok (.iadd, 1) := by decide +kernel
theorem d_L_law_1526 : decode b_L_law 1526 = .ok (.iaload, 1) := by decide +kernel
theorem d_L_law_1527 : decode b_L_law 1527 = .ok (.aload_n 0, 1) := by decide +kernel
theorem d_L_law_1528 : decode b_L_law 1528 = .ok (.iload 4, 2) := by decide +kernel
theorem d_L_law_1530 : decode b_L_law 1530 = .ok (.iconst 2, 1) := by decide +kernel
theorem d_L_law_1531 : decode b_L_law 1531 = .ok (.iadd, 1) := by decide +kernel
theorem d_L_law_1532 : decode b_L_law 1532 = .ok (.iaload, 1) := by decide +kernel
theorem d_L_law_1533 : decode b_L_law 1533 = .ok (.aload_n 3, 1) := by decide +kernel
theorem d_L_law_1534 : decode b_L_law 1534 = .ok (.invokestatic 166, 3) := by decide +kernel
theorem d_L_law_1537 : decode b_L_law 1537 = .ok (.istore 5, 2) := by decide +kernel
theorem d_L_law_1539 : decode b_L_law 1539 = .ok (.aload_n 2, 1) := by decide +kernel
theorem d_L_law_1540 : decode b_L_law 1540 = .ok (.aload_n 0, 1) := by decide +kernel
theorem d_L_law_1541 : decode b_L_law 1541 = .ok (.iload 4, 2) := by decide +kernel
theorem d_L_law_1543 : decode b_L_law 1543 = .ok (.iconst 1, 1) := by decide +kernel
theorem d_L_law_1544 : decode b_L_law 1544 = .ok (.iadd, 1) := by decide +kernel
theorem d_L_law_1545 : decode b_L_law 1545 = .ok (.iaload, 1) := by decide +kernel
theorem d_L_law_1546 : decode b_L_law 1546 = .ok (.aload_n 0, 1) := by decide +kernel
theorem d_L_law_1547 : decode b_L_law 1547 = .ok (.iload 4, 2) := by decide +kernel
theorem d_L_law_1549 : decode b_L_law 1549 = .ok (.iconst 2, 1) := by decide +kernel
theorem d_L_law_1550 : decode b_L_law 1550 = .ok (.iadd, 1) := by decide +kernel
theorem d_L_law_1551 : decode b_L_law 1551 = .ok (.iaload, 1) := by decide +kernel
theorem d_L_law_1552 : decode b_L_law 1552 = .ok (.invokevirtual 168, 3) := by decide +kernel
theorem d_L_law_1555 : decode b_L_law 1555 = .ok (.istore 6, 2) := by decide +kernel
theorem d_L_law_1557 : decode b_L_law 1557 = .ok (.aload_n 2, 1) := by decide +kernel
theorem d_L_law_1558 : decode b_L_law 1558 = .ok (.invokevirtual 102, 3) := by decide +kernel
theorem d_L_law_1561 : decode b_L_law 1561 = .ok (.iload 5, 2) := by decide +kernel
theorem d_L_law_1563 : decode b_L_law 1563 = .ok (.if_icmp .eq 5, 3) := by decide +kernel
theorem d_L_law_1566 : decode b_L_law 1566 = .ok (.iconst 0, 1) := by decide +kernel
theorem d_L_law_1567 : decode b_L_law 1567 = .ok (.ireturn, 1) := by decide +kernel
theorem d_L_law_1568 : decode b_L_law 1568 = .ok (.iload 5, 2) := by decide +kernel
theorem d_L_law_1570 : decode b_L_law 1570 = .ok (.ifCond .ne 15, 3) := by decide +kernel
theorem d_L_law_1573 : decode b_L_law 1573 = .ok (.aload_n 3, 1) := by decide +kernel
theorem d_L_law_1574 : decode b_L_law 1574 = .ok (.iconst 0, 1) := by decide +kernel
theorem d_L_law_1575 : decode b_L_law 1575 = .ok (.laload, 1) := by decide +kernel
theorem d_L_law_1576 : decode b_L_law 1576 = .ok (.iload 6, 2) := by decide +kernel
theorem d_L_law_1578 : decode b_L_law 1578 = .ok (.i2l, 1) := by decide +kernel
theorem d_L_law_1579 : decode b_L_law 1579 = .ok (.lcmp, 1) := by decide +kernel
theorem d_L_law_1580 : decode b_L_law 1580 = .ok (.ifCond .eq 5, 3) := by decide +kernel
theorem d_L_law_1583 : decode b_L_law 1583 = .ok (.iconst 0, 1) := by decide +kernel
theorem d_L_law_1584 : decode b_L_law 1584 = .ok (.ireturn, 1) := by decide +kernel
theorem d_L_law_1585 : decode b_L_law 1585 = .ok (.goto 183, 3) := by decide +kernel
theorem d_L_law_1588 : decode b_L_law 1588 = .ok (.aload_n 1, 1) := by decide +kernel
theorem d_L_law_1589 : decode b_L_law 1589 = .ok (.aload_n 0, 1) := by decide +kernel
theorem d_L_law_1590 : decode b_L_law 1590 = .ok (.iload 4, 2) := by decide +kernel
theorem d_L_law_1592 : decode b_L_law 1592 = .ok (.iconst 1, 1) := by decide +kernel
theorem d_L_law_1593 : decode b_L_law 1593 = .ok (.iadd, 1) := by decide +kernel
theorem d_L_law_1594 : decode b_L_law 1594 = .ok (.iaload, 1) := by decide +kernel
theorem d_L_law_1595 : decode b_L_law 1595 = .ok (.aload_n 0, 1) := by decide +kernel
theorem d_L_law_1596 : decode b_L_law 1596 = .ok (.iload 4, 2) := by decide +kernel
theorem d_L_law_1598 : decode b_L_law 1598 = .ok (.iconst 2, 1) := by decide +kernel
theorem d_L_law_1599 : decode b_L_law 1599 = .ok (.iadd, 1) := by decide +kernel
theorem d_L_law_1600 : decode b_L_law 1600 = .ok (.iaload, 1) := by decide +kernel
theorem d_L_law_1601 : decode b_L_law 1601 = .ok (.aload_n 3, 1) := by decide +kernel
theorem d_L_law_1602 : decode b_L_law 1602 = .ok (.invokestatic 169, 3) := by decide +kernel
theorem d_L_law_1605 : decode b_L_law 1605 = .ok (.istore 5, 2) := by decide +kernel
theorem d_L_law_1607 : decode b_L_law 1607 = .ok (.aload_n 2, 1) := by decide +kernel
theorem d_L_law_1608 : decode b_L_law 1608 = .ok (.aload_n 0, 1) := by decide +kernel
theorem d_L_law_1609 : decode b_L_law 1609 = .ok (.iload 4, 2) := by decide +kernel
theorem d_L_law_1611 : decode b_L_law 1611 = .ok (.iconst 1, 1) := by decide +kernel
theorem d_L_law_1612 : decode b_L_law 1612 = .ok (.iadd, 1) := by decide +kernel
theorem d_L_law_1613 : decode b_L_law 1613 = .ok (.iaload, 1) := by decide +kernel
theorem d_L_law_1614 : decode b_L_law 1614 = .ok (.aload_n 0, 1) := by decide +kernel
theorem d_L_law_1615 : decode b_L_law 1615 = .ok (.iload 4, 2) := by decide +kernel
theorem d_L_law_1617 : decode b_L_law 1617 = .ok (.iconst 2, 1) := by decide +kernel
theorem d_L_law_1618 : decode b_L_law 1618 = .ok (.iadd, 1) := by decide +kernel
theorem d_L_law_1619 : decode b_L_law 1619 = .ok (.iaload, 1) := by decide +kernel
theorem d_L_law_1620 : decode b_L_law 1620 = .ok (.invokevirtual 171, 3) := by decide +kernel
theorem d_L_law_1623 : decode b_L_law 1623 = .ok (.istore 6, 2) := by decide +kernel
theorem d_L_law_1625 : decode b_L_law 1625 = .ok (.aload_n 2, 1) := by decide +kernel
theorem d_L_law_1626 : decode b_L_law 1626 = .ok (.invokevirtual 102, 3) := by decide +kernel
theorem d_L_law_1629 : decode b_L_law 1629 = .ok (.iload 5, 2) := by decide +kernel
theorem d_L_law_1631 : decode b_L_law 1631 = .ok (.if_icmp .eq 5, 3) := by decide +kernel
theorem d_L_law_1634 : decode b_L_law 1634 = .ok (.iconst 0, 1) := by decide +kernel
theorem d_L_law_1635 : decode b_L_law 1635 = .ok (.ireturn, 1) := by decide +kernel
theorem d_L_law_1636 : decode b_L_law 1636 = .ok (.iload 5, 2) := by decide +kernel
theorem d_L_law_1638 : decode b_L_law 1638 = .ok (.ifCond .ne 15, 3) := by decide +kernel
theorem d_L_law_1641 : decode b_L_law 1641 = .ok (.aload_n 3, 1) := by decide +kernel
theorem d_L_law_1642 : decode b_L_law 1642 = .ok (.iconst 0, 1) := by decide +kernel
theorem d_L_law_1643 : decode b_L_law 1643 = .ok (.laload, 1) := by decide +kernel
theorem d_L_law_1644 : decode b_L_law 1644 = .ok (.iload 6, 2) := by decide +kernel
theorem d_L_law_1646 : decode b_L_law 1646 = .ok (.i2l, 1) := by decide +kernel
theorem d_L_law_1647 : decode b_L_law 1647 = .ok (.lcmp, 1) := by decide +kernel
theorem d_L_law_1648 : decode b_L_law 1648 = .ok (.ifCond .eq 5, 3) := by decide +kernel
theorem d_L_law_1651 : decode b_L_law 1651 = .ok (.iconst 0, 1) := by decide +kernel
theorem d_L_law_1652 : decode b_L_law 1652 = .ok (.ireturn, 1) := by decide +kernel
theorem d_L_law_1653 : decode b_L_law 1653 = .ok (.goto 115, 3) := by decide +kernel
theorem d_L_law_1656 : decode b_L_law 1656 = .ok (.aload_n 1, 1) := by decide +kernel
theorem d_L_law_1657 : decode b_L_law 1657 = .ok (.aload_n 0, 1) := by decide +kernel
theorem d_L_law_1658 : decode b_L_law 1658 = .ok (.iload 4, 2) := by decide +kernel
theorem d_L_law_1660 : decode b_L_law 1660 = .ok (.iconst 1, 1) := by decide +kernel
theorem d_L_law_1661 : decode b_L_law 1661 = .ok (.iadd, 1) := by decide +kernel
theorem d_L_law_1662 : decode b_L_law 1662 = .ok (.iaload, 1) := by decide +kernel
theorem d_L_law_1663 : decode b_L_law 1663 = .ok (.aload_n 3, 1) := by decide +kernel
theorem d_L_law_1664 : decode b_L_law 1664 = .ok (.invokestatic 172, 3) := by decide +kernel
theorem d_L_law_1667 : decode b_L_law 1667 = .ok (.istore 5, 2) := by decide +kernel
theorem d_L_law_1669 : decode b_L_law 1669 = .ok (.aload_n 2, 1) := by decide +kernel
theorem d_L_law_1670 : decode b_L_law 1670 = .ok (.aload_n 0, 1) := by decide +kernel
theorem d_L_law_1671 : decode b_L_law 1671 = .ok (.iload 4, 2) := by decide +kernel
theorem d_L_law_1673 : decode b_L_law 1673 = .ok (.iconst 1, 1) := by decide +kernel
theorem d_L_law_1674 : decode b_L_law 1674 = .ok (.iadd, 1) := by decide +kernel
theorem d_L_law_1675 : decode b_L_law 1675 = .ok (.iaload, 1) := by decide +kernel
theorem d_L_law_1676 : decode b_L_law 1676 = .ok (.invokevirtual 175, 3) := by decide +kernel
theorem d_L_law_1679 : decode b_L_law 1679 = .ok (.istore 6, 2) := by decide +kernel
theorem d_L_law_1681 : decode b_L_law 1681 = .ok (.aload_n 2, 1) := by decide +kernel
theorem d_L_law_1682 : decode b_L_law 1682 = .ok (.invokevirtual 102, 3) := by decide +kernel
theorem d_L_law_1685 : decode b_L_law 1685 = .ok (.iload 5, 2) := by decide +kernel
theorem d_L_law_1687 : decode b_L_law 1687 = .ok (.if_icmp .eq 5, 3) := by decide +kernel
theorem d_L_law_1690 : decode b_L_law 1690 = .ok (.iconst 0, 1) := by decide +kernel
theorem d_L_law_1691 : decode b_L_law 1691 = .ok (.ireturn, 1) := by decide +kernel
theorem d_L_law_1692 : decode b_L_law 1692 = .ok (.iload 5, 2) := by decide +kernel
theorem d_L_law_1694 : decode b_L_law 1694 = .ok (.ifCond .ne 15, 3) := by decide +kernel
theorem d_L_law_1697 : decode b_L_law 1697 = .ok (.aload_n 3, 1) := by decide +kernel
theorem d_L_law_1698 : decode b_L_law 1698 = .ok (.iconst 0, 1) := by decide +kernel
theorem d_L_law_1699 : decode b_L_law 1699 = .ok (.laload, 1) := by decide +kernel
theorem d_L_law_1700 : decode b_L_law 1700 = .ok (.iload 6, 2) := by decide +kernel
theorem d_L_law_1702 : decode b_L_law 1702 = .ok (.i2l, 1) := by decide +kernel
theorem d_L_law_1703 : decode b_L_law 1703 = .ok (.lcmp, 1) := by decide +kernel
theorem d_L_law_1704 : decode b_L_law 1704 = .ok (.ifCond .eq 5, 3) := by decide +kernel
theorem d_L_law_1707 : decode b_L_law 1707 = .ok (.iconst 0, 1) := by decide +kernel
theorem d_L_law_1708 : decode b_L_law 1708 = .ok (.ireturn, 1) := by decide +kernel
theorem d_L_law_1709 : decode b_L_law 1709 = .ok (.goto 59, 3) := by decide +kernel
theorem d_L_law_1712 : decode b_L_law 1712 = .ok (.aload_n 1, 1) := by decide +kernel
theorem d_L_law_1713 : decode b_L_law 1713 = .ok (.aload_n 0, 1) := by decide +kernel
theorem d_L_law_1714 : decode b_L_law 1714 = .ok (.iload 4, 2) := by decide +kernel
theorem d_L_law_1716 : decode b_L_law 1716 = .ok (.iconst 1, 1) := by decide +kernel
theorem d_L_law_1717 : decode b_L_law 1717 = .ok (.iadd, 1) := by decide +kernel
theorem d_L_law_1718 : decode b_L_law 1718 = .ok (.iaload, 1) := by decide +kernel
theorem d_L_law_1719 : decode b_L_law 1719 = .ok (.aload_n 3, 1) := by decide +kernel
theorem d_L_law_1720 : decode b_L_law 1720 = .ok (.invokestatic 176, 3) := by decide +kernel
theorem d_L_law_1723 : decode b_L_law 1723 = .ok (.istore 5, 2) := by decide +kernel
theorem d_L_law_1725 : decode b_L_law 1725 = .ok (.aload_n 2, 1) := by decide +kernel
theorem d_L_law_1726 : decode b_L_law 1726 = .ok (.aload_n 0, 1) := by decide +kernel
theorem d_L_law_1727 : decode b_L_law 1727 = .ok (.iload 4, 2) := by decide +kernel
theorem d_L_law_1729 : decode b_L_law 1729 = .ok (.iconst 1, 1) := by decide +kernel
theorem d_L_law_1730 : decode b_L_law 1730 = .ok (.iadd, 1) := by decide +kernel
theorem d_L_law_1731 : decode b_L_law 1731 = .ok (.iaload, 1) := by decide +kernel
theorem d_L_law_1732 : decode b_L_law 1732 = .ok (.invokevirtual 178, 3) := by decide +kernel
theorem d_L_law_1735 : decode b_L_law 1735 = .ok (.istore 6, 2) := by decide +kernel
theorem d_L_law_1737 : decode b_L_law 1737 = .ok (.aload_n 2, 1) := by decide +kernel
theorem d_L_law_1738 : decode b_L_law 1738 = .ok (.invokevirtual 102, 3) := by decide +kernel
theorem d_L_law_1741 : decode b_L_law 1741 = .ok (.iload 5, 2) := by decide +kernel
theorem d_L_law_1743 : decode b_L_law 1743 = .ok (.if_icmp .eq 5, 3) := by decide +kernel
theorem d_L_law_1746 : decode b_L_law 1746 = .ok (.iconst 0, 1) := by decide +kernel
theorem d_L_law_1747 : decode b_L_law 1747 = .ok (.ireturn, 1) := by decide +kernel
theorem d_L_law_1748 : decode b_L_law 1748 = .ok (.iload 5, 2) := by decide +kernel
theorem d_L_law_1750 : decode b_L_law 1750 = .ok (.ifCond .ne 15, 3) := by decide +kernel
theorem d_L_law_1753 : decode b_L_law 1753 = .ok (.aload_n 3, 1) := by decide +kernel
theorem d_L_law_1754 : decode b_L_law 1754 = .ok (.iconst 0, 1) := by decide +kernel
theorem d_L_law_1755 : decode b_L_law 1755 = .ok (.laload, 1) := by decide +kernel
theorem d_L_law_1756 : decode b_L_law 1756 = .ok (.iload 6, 2) := by decide +kernel
theorem d_L_law_1758 : decode b_L_law 1758 = .ok (.i2l, 1) := by decide +kernel
theorem d_L_law_1759 : decode b_L_law 1759 = .ok (.lcmp, 1) := by decide +kernel
theorem d_L_law_1760 : decode b_L_law 1760 = .ok (.ifCond .eq 5, 3) := by decide +kernel
theorem d_L_law_1763 : decode b_L_law 1763 = .ok (.iconst 0, 1) := by decide +kernel
theorem d_L_law_1764 : decode b_L_law 1764 = .ok (.ireturn, 1) := by decide +kernel
theorem d_L_law_1765 : decode b_L_law 1765 = .ok (.goto 3, 3) := by decide +kernel
theorem d_L_law_1768 : decode b_L_law 1768 = .ok (.iinc 4 6, 3) := by decide +kernel
theorem d_L_law_1771 : decode b_L_law 1771 = .ok (.goto (-1748), 3) := by decide +kernel
theorem d_L_law_1774 : decode b_L_law 1774 = .ok (.iconst 1, 1) := by decide +kernel
theorem d_L_law_1775 : decode b_L_law 1775 = .ok (.ireturn, 1) := by decide +kernel
