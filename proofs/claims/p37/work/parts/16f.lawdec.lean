theorem dL_1492 : decode code 1492 = .ok (.iadd, 1) := by decide +kernel
theorem dL_1493 : decode code 1493 = .ok (.iaload, 1) := by decide +kernel
theorem dL_1494 : decode code 1494 = .ok (.aload_n 0, 1) := by decide +kernel
theorem dL_1495 : decode code 1495 = .ok (.iload_n 3, 1) := by decide +kernel
theorem dL_1496 : decode code 1496 = .ok (.iconst 2, 1) := by decide +kernel
theorem dL_1497 : decode code 1497 = .ok (.iadd, 1) := by decide +kernel
theorem dL_1498 : decode code 1498 = .ok (.iaload, 1) := by decide +kernel
theorem dL_1499 : decode code 1499 = .ok (.aload_n 0, 1) := by decide +kernel
theorem dL_1500 : decode code 1500 = .ok (.iload_n 3, 1) := by decide +kernel
theorem dL_1501 : decode code 1501 = .ok (.iconst 3, 1) := by decide +kernel
theorem dL_1502 : decode code 1502 = .ok (.iadd, 1) := by decide +kernel
theorem dL_1503 : decode code 1503 = .ok (.iaload, 1) := by decide +kernel
theorem dL_1504 : decode code 1504 = .ok (.invokevirtual 192, 3) := by decide +kernel
theorem dL_1507 : decode code 1507 = .ok (.pop, 1) := by decide +kernel
theorem dL_1508 : decode code 1508 = .ok (.goto 237, 3) := by decide +kernel
theorem dL_1511 : decode code 1511 = .ok (.aload_n 1, 1) := by decide +kernel
theorem dL_1512 : decode code 1512 = .ok (.aload_n 0, 1) := by decide +kernel
theorem dL_1513 : decode code 1513 = .ok (.iload_n 3, 1) := by decide +kernel
theorem dL_1514 : decode code 1514 = .ok (.iconst 1, 1) := by decide +kernel
theorem dL_1515 : decode code 1515 = .ok (.iadd, 1) := by decide +kernel
theorem dL_1516 : decode code 1516 = .ok (.iaload, 1) := by decide +kernel
theorem dL_1517 : decode code 1517 = .ok (.aload_n 0, 1) := by decide +kernel
theorem dL_1518 : decode code 1518 = .ok (.iload_n 3, 1) := by decide +kernel
theorem dL_1519 : decode code 1519 = .ok (.iconst 2, 1) := by decide +kernel
theorem dL_1520 : decode code 1520 = .ok (.iadd, 1) := by decide +kernel
theorem dL_1521 : decode code 1521 = .ok (.iaload, 1) := by decide +kernel
theorem dL_1522 : decode code 1522 = .ok (.aload_n 0, 1) := by decide +kernel
theorem dL_1523 : decode code 1523 = .ok (.iload_n 3, 1) := by decide +kernel
theorem dL_1524 : decode code 1524 = .ok (.iconst 3, 1) := by decide +kernel
theorem dL_1525 : decode code 1525 = .ok (.iadd, 1) := by decide +kernel
theorem dL_1526 : decode code 1526 = .ok (.iaload, 1) := by decide +kernel
theorem dL_1527 : decode code 1527 = .ok (.invokevirtual 193, 3) := by decide +kernel
theorem dL_1530 : decode code 1530 = .ok (.pop, 1) := by decide +kernel
theorem dL_1531 : decode code 1531 = .ok (.aload_n 2, 1) := by decide +kernel
theorem dL_1532 : decode code 1532 = .ok (.aload_n 0, 1) := by decide +kernel
theorem dL_1533 : decode code 1533 = .ok (.iload_n 3, 1) := by decide +kernel
theorem dL_1534 : decode code 1534 = .ok (.iconst 1, 1) := by decide +kernel
theorem dL_1535 : decode code 1535 = .ok (.iadd, 1) := by decide +kernel
theorem dL_1536 : decode code 1536 = .ok (.iaload, 1) := by decide +kernel
theorem dL_1537 : decode code 1537 = .ok (.aload_n 0, 1) := by decide +kernel
theorem dL_1538 : decode code 1538 = .ok (.iload_n 3, 1) := by decide +kernel
theorem dL_1539 : decode code 1539 = .ok (.iconst 2, 1) := by decide +kernel
theorem dL_1540 : decode code 1540 = .ok (.iadd, 1) := by decide +kernel
theorem dL_1541 : decode code 1541 = .ok (.iaload, 1) := by decide +kernel
theorem dL_1542 : decode code 1542 = .ok (.aload_n 0, 1) := by decide +kernel
theorem dL_1543 : decode code 1543 = .ok (.iload_n 3, 1) := by decide +kernel
theorem dL_1544 : decode code 1544 = .ok (.iconst 3, 1) := by decide +kernel
theorem dL_1545 : decode code 1545 = .ok (.iadd, 1) := by decide +kernel
theorem dL_1546 : decode code 1546 = .ok (.iaload, 1) := by decide +kernel
theorem dL_1547 : decode code 1547 = .ok (.invokevirtual 196, 3) := by decide +kernel
theorem dL_1550 : decode code 1550 = .ok (.pop, 1) := by decide +kernel
theorem dL_1551 : decode code 1551 = .ok (.goto 194, 3) := by decide +kernel
theorem dL_1554 : decode code 1554 = .ok (.aload_n 1, 1) := by decide +kernel
theorem dL_1555 : decode code 1555 = .ok (.aload_n 0, 1) := by decide +kernel
theorem dL_1556 : decode code 1556 = .ok (.iload_n 3, 1) := by decide +kernel
theorem dL_1557 : decode code 1557 = .ok (.iconst 1, 1) := by decide +kernel
theorem dL_1558 : decode code 1558 = .ok (.iadd, 1) := by decide +kernel
theorem dL_1559 : decode code 1559 = .ok (.iaload, 1) := by decide +kernel
theorem dL_1560 : decode code 1560 = .ok (.aload_n 0, 1) := by decide +kernel
theorem dL_1561 : decode code 1561 = .ok (.iload_n 3, 1) := by decide +kernel
theorem dL_1562 : decode code 1562 = .ok (.iconst 2, 1) := by decide +kernel
theorem dL_1563 : decode code 1563 = .ok (.iadd, 1) := by decide +kernel
theorem dL_1564 : decode code 1564 = .ok (.iaload, 1) := by decide +kernel
theorem dL_1565 : decode code 1565 = .ok (.aload_n 0, 1) := by decide +kernel
theorem dL_1566 : decode code 1566 = .ok (.iload_n 3, 1) := by decide +kernel
theorem dL_1567 : decode code 1567 = .ok (.iconst 3, 1) := by decide +kernel
theorem dL_1568 : decode code 1568 = .ok (.iadd, 1) := by decide +kernel
theorem dL_1569 : decode code 1569 = .ok (.iaload, 1) := by decide +kernel
theorem dL_1570 : decode code 1570 = .ok (.invokevirtual 197, 3) := by decide +kernel
theorem dL_1573 : decode code 1573 = .ok (.pop, 1) := by decide +kernel
theorem dL_1574 : decode code 1574 = .ok (.aload_n 2, 1) := by decide +kernel
theorem dL_1575 : decode code 1575 = .ok (.aload_n 0, 1) := by decide +kernel
theorem dL_1576 : decode code 1576 = .ok (.iload_n 3, 1) := by decide +kernel
theorem dL_1577 : decode code 1577 = .ok (.iconst 1, 1) := by decide +kernel
theorem dL_1578 : decode code 1578 = .ok (.iadd, 1) := by decide +kernel
theorem dL_1579 : decode code 1579 = .ok (.iaload, 1) := by decide +kernel
theorem dL_1580 : decode code 1580 = .ok (.aload_n 0, 1) := by decide +kernel
theorem dL_1581 : decode code 1581 = .ok (.iload_n 3, 1) := by decide +kernel
theorem dL_1582 : decode code 1582 = .ok (.iconst 2, 1) := by decide +kernel
theorem dL_1583 : decode code 1583 = .ok (.iadd, 1) := by decide +kernel
theorem dL_1584 : decode code 1584 = .ok (.iaload, 1) := by decide +kernel
theorem dL_1585 : decode code 1585 = .ok (.aload_n 0, 1) := by decide +kernel
theorem dL_1586 : decode code 1586 = .ok (.iload_n 3, 1) := by decide +kernel
theorem dL_1587 : decode code 1587 = .ok (.iconst 3, 1) := by decide +kernel
theorem dL_1588 : decode code 1588 = .ok (.iadd, 1) := by decide +kernel
theorem dL_1589 : decode code 1589 = .ok (.iaload, 1) := by decide +kernel
theorem dL_1590 : decode code 1590 = .ok (.invokevirtual 200, 3) := by decide +kernel
theorem dL_1593 : decode code 1593 = .ok (.pop, 1) := by decide +kernel
theorem dL_1594 : decode code 1594 = .ok (.goto 151, 3) := by decide +kernel
theorem dL_1597 : decode code 1597 = .ok (.aload_n 1, 1) := by decide +kernel
theorem dL_1598 : decode code 1598 = .ok (.aload_n 0, 1) := by decide +kernel
theorem dL_1599 : decode code 1599 = .ok (.iload_n 3, 1) := by decide +kernel
theorem dL_1600 : decode code 1600 = .ok (.iconst 1, 1) := by decide +kernel
theorem dL_1601 : decode code 1601 = .ok (.iadd, 1) := by decide +kernel
theorem dL_1602 : decode code 1602 = .ok (.iaload, 1) := by decide +kernel
theorem dL_1603 : decode code 1603 = .ok (.aload_n 0, 1) := by decide +kernel
theorem dL_1604 : decode code 1604 = .ok (.iload_n 3, 1) := by decide +kernel
theorem dL_1605 : decode code 1605 = .ok (.iconst 2, 1) := by decide +kernel
theorem dL_1606 : decode code 1606 = .ok (.iadd, 1) := by decide +kernel
theorem dL_1607 : decode code 1607 = .ok (.iaload, 1) := by decide +kernel
theorem dL_1608 : decode code 1608 = .ok (.invokevirtual 201, 3) := by decide +kernel
theorem dL_1611 : decode code 1611 = .ok (.pop, 1) := by decide +kernel
theorem dL_1612 : decode code 1612 = .ok (.aload_n 2, 1) := by decide +kernel
theorem dL_1613 : decode code 1613 = .ok (.aload_n 0, 1) := by decide +kernel
theorem dL_1614 : decode code 1614 = .ok (.iload_n 3, 1) := by decide +kernel
theorem dL_1615 : decode code 1615 = .ok (.iconst 1, 1) := by decide +kernel
theorem dL_1616 : decode code 1616 = .ok (.iadd, 1) := by decide +kernel
theorem dL_1617 : decode code 1617 = .ok (.iaload, 1) := by decide +kernel
theorem dL_1618 : decode code 1618 = .ok (.aload_n 0, 1) := by decide +kernel
theorem dL_1619 : decode code 1619 = .ok (.iload_n 3, 1) := by decide +kernel
theorem dL_1620 : decode code 1620 = .ok (.iconst 2, 1) := by decide +kernel
theorem dL_1621 : decode code 1621 = .ok (.iadd, 1) := by decide +kernel
theorem dL_1622 : decode code 1622 = .ok (.iaload, 1) := by decide +kernel
theorem dL_1623 : decode code 1623 = .ok (.invokevirtual 204, 3) := by decide +kernel
theorem dL_1626 : decode code 1626 = .ok (.pop, 1) := by decide +kernel
theorem dL_1627 : decode code 1627 = .ok (.goto 118, 3) := by decide +kernel
theorem dL_1630 : decode code 1630 = .ok (.aload_n 1, 1) := by decide +kernel
theorem dL_1631 : decode code 1631 = .ok (.aload_n 0, 1) := by decide +kernel
theorem dL_1632 : decode code 1632 = .ok (.iload_n 3, 1) := by decide +kernel
theorem dL_1633 : decode code 1633 = .ok (.iconst 1, 1) := by decide +kernel
theorem dL_1634 : decode code 1634 = .ok (.iadd, 1) := by decide +kernel
theorem dL_1635 : decode code 1635 = .ok (.iaload, 1) := by decide +kernel
theorem dL_1636 : decode code 1636 = .ok (.aload_n 0, 1) := by decide +kernel
theorem dL_1637 : decode code 1637 = .ok (.iload_n 3, 1) := by decide +kernel
theorem dL_1638 : decode code 1638 = .ok (.iconst 2, 1) := by decide +kernel
theorem dL_1639 : decode code 1639 = .ok (.iadd, 1) := by decide +kernel
theorem dL_1640 : decode code 1640 = .ok (.iaload, 1) := by decide +kernel
theorem dL_1641 : decode code 1641 = .ok (.aload_n 0, 1) := by decide +kernel
theorem dL_1642 : decode code 1642 = .ok (.iload_n 3, 1) := by decide +kernel
theorem dL_1643 : decode code 1643 = .ok (.iconst 3, 1) := by decide +kernel
theorem dL_1644 : decode code 1644 = .ok (.iadd, 1) := by decide +kernel
theorem dL_1645 : decode code 1645 = .ok (.iaload, 1) := by decide +kernel
theorem dL_1646 : decode code 1646 = .ok (.invokevirtual 205, 3) := by decide +kernel
theorem dL_1649 : decode code 1649 = .ok (.pop, 1) := by decide +kernel
theorem dL_1650 : decode code 1650 = .ok (.aload_n 2, 1) := by decide +kernel
theorem dL_1651 : decode code 1651 = .ok (.aload_n 0, 1) := by decide +kernel
theorem dL_1652 : decode code 1652 = .ok (.iload_n 3, 1) := by decide +kernel
theorem dL_1653 : decode code 1653 = .ok (.iconst 1, 1) := by decide +kernel
theorem dL_1654 : decode code 1654 = .ok (.iadd, 1) := by decide +kernel
theorem dL_1655 : decode code 1655 = .ok (.iaload, 1) := by decide +kernel
theorem dL_1656 : decode code 1656 = .ok (.aload_n 0, 1) := by decide +kernel
theorem dL_1657 : decode code 1657 = .ok (.iload_n 3, 1) := by decide +kernel
theorem dL_1658 : decode code 1658 = .ok (.iconst 2, 1) := by decide +kernel
theorem dL_1659 : decode code 1659 = .ok (.iadd, 1) := by decide +kernel
theorem dL_1660 : decode code 1660 = .ok (.iaload, 1) := by decide +kernel
theorem dL_1661 : decode code 1661 = .ok (.aload_n 0, 1) := by decide +kernel
theorem dL_1662 : decode code 1662 = .ok (.iload_n 3, 1) := by decide +kernel
theorem dL_1663 : decode code 1663 = .ok (.iconst 3, 1) := by decide +kernel
theorem dL_1664 : decode code 1664 = .ok (.iadd, 1) := by decide +kernel
theorem dL_1665 : decode code 1665 = .ok (.iaload, 1) := by decide +kernel
theorem dL_1666 : decode code 1666 = .ok (.invokevirtual 208, 3) := by decide +kernel
theorem dL_1669 : decode code 1669 = .ok (.pop, 1) := by decide +kernel
theorem dL_1670 : decode code 1670 = .ok (.goto 75, 3) := by decide +kernel
theorem dL_1673 : decode code 1673 = .ok (.aload_n 1, 1) := by decide +kernel
theorem dL_1674 : decode code 1674 = .ok (.aload_n 0, 1) := by decide +kernel
theorem dL_1675 : decode code 1675 = .ok (.iload_n 3, 1) := by decide +kernel
theorem dL_1676 : decode code 1676 = .ok (.iconst 1, 1) := by decide +kernel
theorem dL_1677 : decode code 1677 = .ok (.iadd, 1) := by decide +kernel
theorem dL_1678 : decode code 1678 = .ok (.iaload, 1) := by decide +kernel
theorem dL_1679 : decode code 1679 = .ok (.invokevirtual 209, 3) := by decide +kernel
theorem dL_1682 : decode code 1682 = .ok (.pop, 1) := by decide +kernel
theorem dL_1683 : decode code 1683 = .ok (.aload_n 2, 1) := by decide +kernel
theorem dL_1684 : decode code 1684 = .ok (.aload_n 0, 1) := by decide +kernel
theorem dL_1685 : decode code 1685 = .ok (.iload_n 3, 1) := by decide +kernel
theorem dL_1686 : decode code 1686 = .ok (.iconst 1, 1) := by decide +kernel
theorem dL_1687 : decode code 1687 = .ok (.iadd, 1) := by decide +kernel
theorem dL_1688 : decode code 1688 = .ok (.iaload, 1) := by decide +kernel
theorem dL_1689 : decode code 1689 = .ok (.invokevirtual 212, 3) := by decide +kernel
theorem dL_1692 : decode code 1692 = .ok (.pop, 1) := by decide +kernel
theorem dL_1693 : decode code 1693 = .ok (.goto 52, 3) := by decide +kernel
theorem dL_1696 : decode code 1696 = .ok (.aload_n 1, 1) := by decide +kernel
theorem dL_1697 : decode code 1697 = .ok (.aload_n 0, 1) := by decide +kernel
theorem dL_1698 : decode code 1698 = .ok (.iload_n 3, 1) := by decide +kernel
theorem dL_1699 : decode code 1699 = .ok (.iconst 1, 1) := by decide +kernel
theorem dL_1700 : decode code 1700 = .ok (.iadd, 1) := by decide +kernel
theorem dL_1701 : decode code 1701 = .ok (.iaload, 1) := by decide +kernel
theorem dL_1702 : decode code 1702 = .ok (.invokevirtual 213, 3) := by decide +kernel
theorem dL_1705 : decode code 1705 = .ok (.pop, 1) := by decide +kernel
theorem dL_1706 : decode code 1706 = .ok (.aload_n 2, 1) := by decide +kernel
theorem dL_1707 : decode code 1707 = .ok (.aload_n 0, 1) := by decide +kernel
theorem dL_1708 : decode code 1708 = .ok (.iload_n 3, 1) := by decide +kernel
theorem dL_1709 : decode code 1709 = .ok (.iconst 1, 1) := by decide +kernel
theorem dL_1710 : decode code 1710 = .ok (.iadd, 1) := by decide +kernel
theorem dL_1711 : decode code 1711 = .ok (.iaload, 1) := by decide +kernel
theorem dL_1712 : decode code 1712 = .ok (.invokevirtual 216, 3) := by decide +kernel
theorem dL_1715 : decode code 1715 = .ok (.pop, 1) := by decide +kernel
theorem dL_1716 : decode code 1716 = .ok (.goto 29, 3) := by decide +kernel
theorem dL_1719 : decode code 1719 = .ok (.aload_n 1, 1) := by decide +kernel
theorem dL_1720 : decode code 1720 = .ok (.invokevirtual 217, 3) := by decide +kernel
theorem dL_1723 : decode code 1723 = .ok (.pop, 1) := by decide +kernel
theorem dL_1724 : decode code 1724 = .ok (.aload_n 2, 1) := by decide +kernel
theorem dL_1725 : decode code 1725 = .ok (.invokevirtual 220, 3) := by decide +kernel
theorem dL_1728 : decode code 1728 = .ok (.pop, 1) := by decide +kernel
theorem dL_1729 : decode code 1729 = .ok (.goto 16, 3) := by decide +kernel
theorem dL_1732 : decode code 1732 = .ok (.aload_n 1, 1) := by decide +kernel
theorem dL_1733 : decode code 1733 = .ok (.invokevirtual 221, 3) := by decide +kernel
theorem dL_1736 : decode code 1736 = .ok (.pop, 1) := by decide +kernel
theorem dL_1737 : decode code 1737 = .ok (.aload_n 2, 1) := by decide +kernel
theorem dL_1738 : decode code 1738 = .ok (.invokevirtual 224, 3) := by decide +kernel
theorem dL_1741 : decode code 1741 = .ok (.pop, 1) := by decide +kernel
theorem dL_1742 : decode code 1742 = .ok (.goto 3, 3) := by decide +kernel
theorem dL_1745 : decode code 1745 = .ok (.iinc 3 5, 3) := by decide +kernel
theorem dL_1748 : decode code 1748 = .ok (.goto (-1730), 3) := by decide +kernel
theorem dL_1751 : decode code 1751 = .ok (.iconst 1, 1) := by decide +kernel
theorem dL_1752 : decode code 1752 = .ok (.ireturn, 1) := by decide +kernel
