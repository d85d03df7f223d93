/-! Rows of the law, 2. -/
theorem dL_law__1417 : decode cL_law_ 1417 = .ok (.aload_n 0, 1) := by decide +kernel
theorem dL_law__1418 : decode cL_law_ 1418 = .ok (.iload 4, 2) := by decide +kernel
theorem dL_law__1420 : decode cL_law_ 1420 = .ok (.iconst 1, 1) := by decide +kernel
theorem dL_law__1421 : decode cL_law_ 1421 = .ok (.iadd, 1) := by decide +kernel
theorem dL_law__1422 : decode cL_law_ 1422 = .ok (.iaload, 1) := by decide +kernel
theorem dL_law__1423 : decode cL_law_ 1423 = .ok (.aload_n 3, 1) := by decide +kernel
theorem dL_law__1424 : decode cL_law_ 1424 = .ok (.invokestatic 193, 3) := by decide +kernel
theorem dL_law__1427 : decode cL_law_ 1427 = .ok (.istore 5, 2) := by decide +kernel
theorem dL_law__1429 : decode cL_law_ 1429 = .ok (.aload_n 2, 1) := by decide +kernel
theorem dL_law__1430 : decode cL_law_ 1430 = .ok (.aload_n 0, 1) := by decide +kernel
theorem dL_law__1431 : decode cL_law_ 1431 = .ok (.iload 4, 2) := by decide +kernel
theorem dL_law__1433 : decode cL_law_ 1433 = .ok (.iconst 1, 1) := by decide +kernel
theorem dL_law__1434 : decode cL_law_ 1434 = .ok (.iadd, 1) := by decide +kernel
theorem dL_law__1435 : decode cL_law_ 1435 = .ok (.iaload, 1) := by decide +kernel
theorem dL_law__1436 : decode cL_law_ 1436 = .ok (.invokevirtual 195, 3) := by decide +kernel
theorem dL_law__1439 : decode cL_law_ 1439 = .ok (.istore 6, 2) := by decide +kernel
theorem dL_law__1441 : decode cL_law_ 1441 = .ok (.aload_n 2, 1) := by decide +kernel
theorem dL_law__1442 : decode cL_law_ 1442 = .ok (.invokevirtual 132, 3) := by decide +kernel
theorem dL_law__1445 : decode cL_law_ 1445 = .ok (.iload 5, 2) := by decide +kernel
theorem dL_law__1447 : decode cL_law_ 1447 = .ok (.if_icmp .eq 5, 3) := by decide +kernel
theorem dL_law__1450 : decode cL_law_ 1450 = .ok (.iconst 0, 1) := by decide +kernel
theorem dL_law__1451 : decode cL_law_ 1451 = .ok (.ireturn, 1) := by decide +kernel
theorem dL_law__1452 : decode cL_law_ 1452 = .ok (.iload 5, 2) := by decide +kernel
theorem dL_law__1454 : decode cL_law_ 1454 = .ok (.ifCond .ne 15, 3) := by decide +kernel
theorem dL_law__1457 : decode cL_law_ 1457 = .ok (.aload_n 3, 1) := by decide +kernel
theorem dL_law__1458 : decode cL_law_ 1458 = .ok (.iconst 0, 1) := by decide +kernel
theorem dL_law__1459 : decode cL_law_ 1459 = .ok (.laload, 1) := by decide +kernel
theorem dL_law__1460 : decode cL_law_ 1460 = .ok (.iload 6, 2) := by decide +kernel
theorem dL_law__1462 : decode cL_law_ 1462 = .ok (.i2l, 1) := by decide +kernel
theorem dL_law__1463 : decode cL_law_ 1463 = .ok (.lcmp, 1) := by decide +kernel
theorem dL_law__1464 : decode cL_law_ 1464 = .ok (.ifCond .eq 5, 3) := by decide +kernel
theorem dL_law__1467 : decode cL_law_ 1467 = .ok (.iconst 0, 1) := by decide +kernel
theorem dL_law__1468 : decode cL_law_ 1468 = .ok (.ireturn, 1) := by decide +kernel
theorem dL_law__1469 : decode cL_law_ 1469 = .ok (.goto 1161, 3) := by decide +kernel
theorem dL_law__1472 : decode cL_law_ 1472 = .ok (.aload_n 1, 1) := by decide +kernel
theorem dL_law__1473 : decode cL_law_ 1473 = .ok (.aload_n 0, 1) := by decide +kernel
theorem dL_law__1474 : decode cL_law_ 1474 = .ok (.iload 4, 2) := by decide +kernel
theorem dL_law__1476 : decode cL_law_ 1476 = .ok (.iconst 1, 1) := by decide +kernel
theorem dL_law__1477 : decode cL_law_ 1477 = .ok (.iadd, 1) := by decide +kernel
theorem dL_law__1478 : decode cL_law_ 1478 = .ok (.iaload, 1) := by decide +kernel
theorem dL_law__1479 : decode cL_law_ 1479 = .ok (.aload_n 0, 1) := by decide +kernel
theorem dL_law__1480 : decode cL_law_ 1480 = .ok (.iload 4, 2) := by decide +kernel
theorem dL_law__1482 : decode cL_law_ 1482 = .ok (.iconst 2, 1) := by decide +kernel
theorem dL_law__1483 : decode cL_law_ 1483 = .ok (.iadd, 1) := by decide +kernel
theorem dL_law__1484 : decode cL_law_ 1484 = .ok (.iaload, 1) := by decide +kernel
theorem dL_law__1485 : decode cL_law_ 1485 = .ok (.aload_n 3, 1) := by decide +kernel
theorem dL_law__1486 : decode cL_law_ 1486 = .ok (.invokestatic 196, 3) := by decide +kernel
theorem dL_law__1489 : decode cL_law_ 1489 = .ok (.istore 5, 2) := by decide +kernel
theorem dL_law__1491 : decode cL_law_ 1491 = .ok (.aload_n 2, 1) := by decide +kernel
theorem dL_law__1492 : decode cL_law_ 1492 = .ok (.aload_n 0, 1) := by decide +kernel
theorem dL_law__1493 : decode cL_law_ 1493 = .ok (.iload 4, 2) := by decide +kernel
theorem dL_law__1495 : decode cL_law_ 1495 = .ok (.iconst 1, 1) := by decide +kernel
theorem dL_law__1496 : decode cL_law_ 1496 = .ok (.iadd, 1) := by decide +kernel
theorem dL_law__1497 : decode cL_law_ 1497 = .ok (.iaload, 1) := by decide +kernel
theorem dL_law__1498 : decode cL_law_ 1498 = .ok (.aload_n 0, 1) := by decide +kernel
theorem dL_law__1499 : decode cL_law_ 1499 = .ok (.iload 4, 2) := by decide +kernel
theorem dL_law__1501 : decode cL_law_ 1501 = .ok (.iconst 2, 1) := by decide +kernel
theorem dL_law__1502 : decode cL_law_ 1502 = .ok (.iadd, 1) := by decide +kernel
theorem dL_law__1503 : decode cL_law_ 1503 = .ok (.iaload, 1) := by decide +kernel
theorem dL_law__1504 : decode cL_law_ 1504 = .ok (.invokevirtual 198, 3) := by decide +kernel
theorem dL_law__1507 : decode cL_law_ 1507 = .ok (.istore 6, 2) := by decide +kernel
theorem dL_law__1509 : decode cL_law_ 1509 = .ok (.aload_n 2, 1) := by decide +kernel
theorem dL_law__1510 : decode cL_law_ 1510 = .ok (.invokevirtual 132, 3) := by decide +kernel
theorem dL_law__1513 : decode cL_law_ 1513 = .ok (.iload 5, 2) := by decide +kernel
theorem dL_law__1515 : decode cL_law_ 1515 = .ok (.if_icmp .eq 5, 3) := by decide +kernel
theorem dL_law__1518 : decode cL_law_ 1518 = .ok (.iconst 0, 1) := by decide +kernel
theorem dL_law__1519 : decode cL_law_ 1519 = .ok (.ireturn, 1) := by decide +kernel
theorem dL_law__1520 : decode cL_law_ 1520 = .ok (.iload 5, 2) := by decide +kernel
theorem dL_law__1522 : decode cL_law_ 1522 = .ok (.ifCond .ne 15, 3) := by decide +kernel
theorem dL_law__1525 : decode cL_law_ 1525 = .ok (.aload_n 3, 1) := by decide +kernel
theorem dL_law__1526 : decode cL_law_ 1526 = .ok (.iconst 0, 1) := by decide +kernel
theorem dL_law__1527 : decode cL_law_ 1527 = .ok (.laload, 1) := by decide +kernel
theorem dL_law__1528 : decode cL_law_ 1528 = .ok (.iload 6, 2) := by decide +kernel
theorem dL_law__1530 : decode cL_law_ 1530 = .ok (.i2l, 1) := by decide +kernel
theorem dL_law__1531 : decode cL_law_ 1531 = .ok (.lcmp, 1) := by decide +kernel
theorem dL_law__1532 : decode cL_law_ 1532 = .ok (.ifCond .eq 5, 3) := by decide +kernel
theorem dL_law__1535 : decode cL_law_ 1535 = .ok (.iconst 0, 1) := by decide +kernel
theorem dL_law__1536 : decode cL_law_ 1536 = .ok (.ireturn, 1) := by decide +kernel
theorem dL_law__1537 : decode cL_law_ 1537 = .ok (.goto 1093, 3) := by decide +kernel
theorem dL_law__1540 : decode cL_law_ 1540 = .ok (.aload_n 1, 1) := by decide +kernel
theorem dL_law__1541 : decode cL_law_ 1541 = .ok (.aload_n 0, 1) := by decide +kernel
theorem dL_law__1542 : decode cL_law_ 1542 = .ok (.iload 4, 2) := by decide +kernel
theorem dL_law__1544 : decode cL_law_ 1544 = .ok (.iconst 1, 1) := by decide +kernel
theorem dL_law__1545 : decode cL_law_ 1545 = .ok (.iadd, 1) := by decide +kernel
theorem dL_law__1546 : decode cL_law_ 1546 = .ok (.iaload, 1) := by decide +kernel
theorem dL_law__1547 : decode cL_law_ 1547 = .ok (.aload_n 0, 1) := by decide +kernel
theorem dL_law__1548 : decode cL_law_ 1548 = .ok (.iload 4, 2) := by decide +kernel
theorem dL_law__1550 : decode cL_law_ 1550 = .ok (.iconst 2, 1) := by decide +kernel
theorem dL_law__1551 : decode cL_law_ 1551 = .ok (.iadd, 1) := by decide +kernel
theorem dL_law__1552 : decode cL_law_ 1552 = .ok (.iaload, 1) := by decide +kernel
theorem dL_law__1553 : decode cL_law_ 1553 = .ok (.aload_n 0, 1) := by decide +kernel
theorem dL_law__1554 : decode cL_law_ 1554 = .ok (.iload 4, 2) := by decide +kernel
theorem dL_law__1556 : decode cL_law_ 1556 = .ok (.iconst 3, 1) := by decide +kernel
theorem dL_law__1557 : decode cL_law_ 1557 = .ok (.iadd, 1) := by decide +kernel
theorem dL_law__1558 : decode cL_law_ 1558 = .ok (.iaload, 1) := by decide +kernel
theorem dL_law__1559 : decode cL_law_ 1559 = .ok (.aload_n 0, 1) := by decide +kernel
theorem dL_law__1560 : decode cL_law_ 1560 = .ok (.iload 4, 2) := by decide +kernel
theorem dL_law__1562 : decode cL_law_ 1562 = .ok (.iconst 4, 1) := by decide +kernel
theorem dL_law__1563 : decode cL_law_ 1563 = .ok (.iadd, 1) := by decide +kernel
theorem dL_law__1564 : decode cL_law_ 1564 = .ok (.iaload, 1) := by decide +kernel
theorem dL_law__1565 : decode cL_law_ 1565 = .ok (.aload_n 3, 1) := by decide +kernel
theorem dL_law__1566 : decode cL_law_ 1566 = .ok (.invokestatic 199, 3) := by decide +kernel
theorem dL_law__1569 : decode cL_law_ 1569 = .ok (.istore 5, 2) := by decide +kernel
theorem dL_law__1571 : decode cL_law_ 1571 = .ok (.aload_n 2, 1) := by decide +kernel
theorem dL_law__1572 : decode cL_law_ 1572 = .ok (.aload_n 0, 1) := by decide +kernel
theorem dL_law__1573 : decode cL_law_ 1573 = .ok (.iload 4, 2) := by decide +kernel
theorem dL_law__1575 : decode cL_law_ 1575 = .ok (.iconst 1, 1) := by decide +kernel
theorem dL_law__1576 : decode cL_law_ 1576 = .ok (.iadd, 1) := by decide +kernel
theorem dL_law__1577 : decode cL_law_ 1577 = .ok (.iaload, 1) := by decide +kernel
theorem dL_law__1578 : decode cL_law_ 1578 = .ok (.aload_n 0, 1) := by decide +kernel
theorem dL_law__1579 : decode cL_law_ 1579 = .ok (.iload 4, 2) := by decide +kernel
theorem dL_law__1581 : decode cL_law_ 1581 = .ok (.iconst 2, 1) := by decide +kernel
theorem dL_law__1582 : decode cL_law_ 1582 = .ok (.iadd, 1) := by decide +kernel
theorem dL_law__1583 : decode cL_law_ 1583 = .ok (.iaload, 1) := by decide +kernel
theorem dL_law__1584 : decode cL_law_ 1584 = .ok (.aload_n 0, 1) := by decide +kernel
theorem dL_law__1585 : decode cL_law_ 1585 = .ok (.iload 4, 2) := by decide +kernel
theorem dL_law__1587 : decode cL_law_ 1587 = .ok (.iconst 3, 1) := by decide +kernel
theorem dL_law__1588 : decode cL_law_ 1588 = .ok (.iadd, 1) := by decide +kernel
theorem dL_law__1589 : decode cL_law_ 1589 = .ok (.iaload, 1) := by decide +kernel
theorem dL_law__1590 : decode cL_law_ 1590 = .ok (.aload_n 0, 1) := by decide +kernel
theorem dL_law__1591 : decode cL_law_ 1591 = .ok (.iload 4, 2) := by decide +kernel
theorem dL_law__1593 : decode cL_law_ 1593 = .ok (.iconst 4, 1) := by decide +kernel
theorem dL_law__1594 : decode cL_law_ 1594 = .ok (.iadd, 1) := by decide +kernel
theorem dL_law__1595 : decode cL_law_ 1595 = .ok (.iaload, 1) := by decide +kernel
theorem dL_law__1596 : decode cL_law_ 1596 = .ok (.invokevirtual 201, 3) := by decide +kernel
theorem dL_law__1599 : decode cL_law_ 1599 = .ok (.lstore 6, 2) := by decide +kernel
theorem dL_law__1601 : decode cL_law_ 1601 = .ok (.aload_n 2, 1) := by decide +kernel
theorem dL_law__1602 : decode cL_law_ 1602 = .ok (.invokevirtual 132, 3) := by decide +kernel
theorem dL_law__1605 : decode cL_law_ 1605 = .ok (.iload 5, 2) := by decide +kernel
theorem dL_law__1607 : decode cL_law_ 1607 = .ok (.if_icmp .eq 5, 3) := by decide +kernel
theorem dL_law__1610 : decode cL_law_ 1610 = .ok (.iconst 0, 1) := by decide +kernel
theorem dL_law__1611 : decode cL_law_ 1611 = .ok (.ireturn, 1) := by decide +kernel
theorem dL_law__1612 : decode cL_law_ 1612 = .ok (.iload 5, 2) := by decide +kernel
theorem dL_law__1614 : decode cL_law_ 1614 = .ok (.ifCond .ne 14, 3) := by decide +kernel
theorem dL_law__1617 : decode cL_law_ 1617 = .ok (.aload_n 3, 1) := by decide +kernel
theorem dL_law__1618 : decode cL_law_ 1618 = .ok (.iconst 0, 1) := by decide +kernel
theorem dL_law__1619 : decode cL_law_ 1619 = .ok (.laload, 1) := by decide +kernel
theorem dL_law__1620 : decode cL_law_ 1620 = .ok (.lload 6, 2) := by decide +kernel
theorem dL_law__1622 : decode cL_law_ 1622 = .ok (.lcmp, 1) := by decide +kernel
theorem dL_law__1623 : decode cL_law_ 1623 = .ok (.ifCond .eq 5, 3) := by decide +kernel
theorem dL_law__1626 : decode cL_law_ 1626 = .ok (.iconst 0, 1) := by decide +kernel
theorem dL_law__1627 : decode cL_law_ 1627 = .ok (.ireturn, 1) := by decide +kernel
theorem dL_law__1628 : decode cL_law_ 1628 = .ok (.goto 1002, 3) := by decide +kernel
theorem dL_law__1631 : decode cL_law_ 1631 = .ok (.aload_n 1, 1) := by decide +kernel
theorem dL_law__1632 : decode cL_law_ 1632 = .ok (.aload_n 0, 1) := by decide +kernel
theorem dL_law__1633 : decode cL_law_ 1633 = .ok (.iload 4, 2) := by decide +kernel
theorem dL_law__1635 : decode cL_law_ 1635 = .ok (.iconst 1, 1) := by decide +kernel
theorem dL_law__1636 : decode cL_law_ 1636 = .ok (.iadd, 1) := by decide +kernel
theorem dL_law__1637 : decode cL_law_ 1637 = .ok (.iaload, 1) := by decide +kernel
theorem dL_law__1638 : decode cL_law_ 1638 = .ok (.aload_n 0, 1) := by decide +kernel
theorem dL_law__1639 : decode cL_law_ 1639 = .ok (.iload 4, 2) := by decide +kernel
theorem dL_law__1641 : decode cL_law_ 1641 = .ok (.iconst 2, 1) := by decide +kernel
theorem dL_law__1642 : decode cL_law_ 1642 = .ok (.iadd, 1) := by decide +kernel
theorem dL_law__1643 : decode cL_law_ 1643 = .ok (.iaload, 1) := by decide +kernel
theorem dL_law__1644 : decode cL_law_ 1644 = .ok (.aload_n 0, 1) := by decide +kernel
theorem dL_law__1645 : decode cL_law_ 1645 = .ok (.iload 4, 2) := by decide +kernel
theorem dL_law__1647 : decode cL_law_ 1647 = .ok (.iconst 3, 1) := by decide +kernel
theorem dL_law__1648 : decode cL_law_ 1648 = .ok (.iadd, 1) := by decide +kernel
theorem dL_law__1649 : decode cL_law_ 1649 = .ok (.iaload, 1) := by decide +kernel
theorem dL_law__1650 : decode cL_law_ 1650 = .ok (.aload_n 3, 1) := by decide +kernel
theorem dL_law__1651 : decode cL_law_ 1651 = .ok (.invokestatic 202, 3) := by decide +kernel
theorem dL_law__1654 : decode cL_law_ 1654 = .ok (.istore 5, 2) := by decide +kernel
theorem dL_law__1656 : decode cL_law_ 1656 = .ok (.aload_n 2, 1) := by decide +kernel
theorem dL_law__1657 : decode cL_law_ 1657 = .ok (.aload_n 0, 1) := by decide +kernel
theorem dL_law__1658 : decode cL_law_ 1658 = .ok (.iload 4, 2) := by decide +kernel
theorem dL_law__1660 : decode cL_law_ 1660 = .ok (.iconst 1, 1) := by decide +kernel
theorem dL_law__1661 : decode cL_law_ 1661 = .ok (.iadd, 1) := by decide +kernel
theorem dL_law__1662 : decode cL_law_ 1662 = .ok (.iaload, 1) := by decide +kernel
theorem dL_law__1663 : decode cL_law_ 1663 = .ok (.aload_n 0, 1) := by decide +kernel
theorem dL_law__1664 : decode cL_law_ 1664 = .ok (.iload 4, 2) := by decide +kernel
theorem dL_law__1666 : decode cL_law_ 1666 = .ok (.iconst 2, 1) := by decide +kernel
theorem dL_law__1667 : decode cL_law_ 1667 = .ok (.iadd, 1) := by decide +kernel
theorem dL_law__1668 : decode cL_law_ 1668 = .ok (.iaload, 1) := by decide +kernel
theorem dL_law__1669 : decode cL_law_ 1669 = .ok (.aload_n 0, 1) := by decide +kernel
theorem dL_law__1670 : decode cL_law_ 1670 = .ok (.iload 4, 2) := by decide +kernel
theorem dL_law__1672 : decode cL_law_ 1672 = .ok (.iconst 3, 1) := by decide +kernel
theorem dL_law__1673 : decode cL_law_ 1673 = .ok (.iadd, 1) := by decide +kernel
theorem dL_law__1674 : decode cL_law_ 1674 = .ok (.iaload, 1) := by decide +kernel
theorem dL_law__1675 : decode cL_law_ 1675 = .ok (.invokevirtual 204, 3) := by decide +kernel
theorem dL_law__1678 : decode cL_law_ 1678 = .ok (.istore 6, 2) := by decide +kernel
theorem dL_law__1680 : decode cL_law_ 1680 = .ok (.aload_n 2, 1) := by decide +kernel
theorem dL_law__1681 : decode cL_law_ 1681 = .ok (.invokevirtual 132, 3) := by decide +kernel
theorem dL_law__1684 : decode cL_law_ 1684 = .ok (.iload 5, 2) := by decide +kernel
theorem dL_law__1686 : decode cL_law_ 1686 = .ok (.if_icmp .eq 5, 3) := by decide +kernel
theorem dL_law__1689 : decode cL_law_ 1689 = .ok (.iconst 0, 1) := by decide +kernel
theorem dL_law__1690 : decode cL_law_ 1690 = .ok (.ireturn, 1) := by decide +kernel
theorem dL_law__1691 : decode cL_law_ 1691 = .ok (.iload 5, 2) := by decide +kernel
theorem dL_law__1693 : decode cL_law_ 1693 = .ok (.ifCond .ne 15, 3) := by decide +kernel
theorem dL_law__1696 : decode cL_law_ 1696 = .ok (.aload_n 3, 1) := by decide +kernel
theorem dL_law__1697 : decode cL_law_ 1697 = .ok (.iconst 0, 1) := by decide +kernel
theorem dL_law__1698 : decode cL_law_ 1698 = .ok (.laload, 1) := by decide +kernel
theorem dL_law__1699 : decode cL_law_ 1699 = .ok (.iload 6, 2) := by decide +kernel
theorem dL_law__1701 : decode cL_law_ 1701 = .ok (.i2l, 1) := by decide +kernel
theorem dL_law__1702 : decode cL_law_ 1702 = .ok (.lcmp, 1) := by decide +kernel
theorem dL_law__1703 : decode cL_law_ 1703 = .ok (.ifCond .eq 5, 3) := by decide +kernel
theorem dL_law__1706 : decode cL_law_ 1706 = .ok (.iconst 0, 1) := by decide +kernel
theorem dL_law__1707 : decode cL_law_ 1707 = .ok (.ireturn, 1) := by decide +kernel
theorem dL_law__1708 : decode cL_law_ 1708 = .ok (.goto 922, 3) := by decide +kernel
theorem dL_law__1711 : decode cL_law_ 1711 = .ok (.aload_n 1, 1) := by decide +kernel
theorem dL_law__1712 : decode cL_law_ 1712 = .ok (.aload_n 0, 1) := by decide +kernel
theorem dL_law__1713 : decode cL_law_ 1713 = .ok (.iload 4, 2) := by decide +kernel
theorem dL_law__1715 : decode cL_law_ 1715 = .ok (.iconst 1, 1) := by decide +kernel
theorem dL_law__1716 : decode cL_law_ 1716 = .ok (.iadd, 1) := by decide +kernel
theorem dL_law__1717 : decode cL_law_ 1717 = .ok (.iaload, 1) := by decide +kernel
theorem dL_law__1718 : decode cL_law_ 1718 = .ok (.aload_n 0, 1) := by decide +kernel
theorem dL_law__1719 : decode cL_law_ 1719 = .ok (.iload 4, 2) := by decide +kernel
theorem dL_law__1721 : decode cL_law_ 1721 = .ok (.iconst 2, 1) := by decide +kernel
theorem dL_law__1722 : decode cL_law_ 1722 = .ok (.iadd, 1) := by decide +kernel
theorem dL_law__1723 : decode cL_law_ 1723 = .ok (.iaload, 1) := by decide +kernel
theorem dL_law__1724 : decode cL_law_ 1724 = .ok (.aload_n 0, 1) := by decide +kernel
theorem dL_law__1725 : decode cL_law_ 1725 = .ok (.iload 4, 2) := by decide +kernel
theorem dL_law__1727 : decode cL_law_ 1727 = .ok (.iconst 3, 1) := by decide +kernel
theorem dL_law__1728 : decode cL_law_ 1728 = .ok (.iadd, 1) := by decide +kernel
theorem dL_law__1729 : decode cL_law_ 1729 = .ok (.iaload, 1) := by decide +kernel
theorem dL_law__1730 : decode cL_law_ 1730 = .ok (.aload_n 3, 1) := by decide +kernel
theorem dL_law__1731 : decode cL_law_ 1731 = .ok (.invokestatic 205, 3) := by decide +kernel
theorem dL_law__1734 : decode cL_law_ 1734 = .ok (.istore 5, 2) := by decide +kernel
theorem dL_law__1736 : decode cL_law_ 1736 = .ok (.aload_n 2, 1) := by decide +kernel
theorem dL_law__1737 : decode cL_law_ 1737 = .ok (.aload_n 0, 1) := by decide +kernel
theorem dL_law__1738 : decode cL_law_ 1738 = .ok (.iload 4, 2) := by decide +kernel
theorem dL_law__1740 : decode cL_law_ 1740 = .ok (.iconst 1, 1) := by decide +kernel
theorem dL_law__1741 : decode cL_law_ 1741 = .ok (.iadd, 1) := by decide +kernel
theorem dL_law__1742 : decode cL_law_ 1742 = .ok (.iaload, 1) := by decide +kernel
theorem dL_law__1743 : decode cL_law_ 1743 = .ok (.aload_n 0, 1) := by decide +kernel
theorem dL_law__1744 : decode cL_law_ 1744 = .ok (.iload 4, 2) := by decide +kernel
theorem dL_law__1746 : decode cL_law_ 1746 = .ok (.iconst 2, 1) := by decide +kernel
theorem dL_law__1747 : decode cL_law_ 1747 = .ok (.iadd, 1) := by decide +kernel
theorem dL_law__1748 : decode cL_law_ 1748 = .ok (.iaload, 1) := by decide +kernel
theorem dL_law__1749 : decode cL_law_ 1749 = .ok (.aload_n 0, 1) := by decide +kernel
theorem dL_law__1750 : decode cL_law_ 1750 = .ok (.iload 4, 2) := by decide +kernel
theorem dL_law__1752 : decode cL_law_ 1752 = .ok (.iconst 3, 1) := by decide +kernel
theorem dL_law__1753 : decode cL_law_ 1753 = .ok (.iadd, 1) := by decide +kernel
theorem dL_law__1754 : decode cL_law_ 1754 = .ok (.iaload, 1) := by decide +kernel
theorem dL_law__1755 : decode cL_law_ 1755 = .ok (.invokevirtual 207, 3) := by decide +kernel
theorem dL_law__1758 : decode cL_law_ 1758 = .ok (.istore 6, 2) := by decide +kernel
theorem dL_law__1760 : decode cL_law_ 1760 = .ok (.aload_n 2, 1) := by decide +kernel
theorem dL_law__1761 : decode cL_law_ 1761 = .ok (.invokevirtual 132, 3) := by decide +kernel
theorem dL_law__1764 : decode cL_law_ 1764 = .ok (.iload 5, 2) := by decide +kernel
theorem dL_law__1766 : decode cL_law_ 1766 = .ok (.if_icmp .eq 5, 3) := by decide +kernel
theorem dL_law__1769 : decode cL_law_ 1769 = .ok (.iconst 0, 1) := by decide +kernel
theorem dL_law__1770 : decode cL_law_ 1770 = .ok (.ireturn, 1) := by decide +kernel
theorem dL_law__1771 : decode cL_law_ 1771 = .ok (.iload 5, 2) := by decide +kernel
theorem dL_law__1773 : decode cL_law_ 1773 = .ok (.ifCond .ne 15, 3) := by decide +kernel
theorem dL_law__1776 : decode cL_law_ 1776 = .ok (.aload_n 3, 1) := by decide +kernel
theorem dL_law__1777 : decode cL_law_ 1777 = .ok (.iconst 0, 1) := by decide +kernel
theorem dL_law__1778 : decode cL_law_ 1778 = .ok (.laload, 1) := by decide +kernel
theorem dL_law__1779 : decode cL_law_ 1779 = .ok (.iload 6, 2) := by decide +kernel
theorem dL_law__1781 : decode cL_law_ 1781 = .ok (.i2l, 1) := by decide +kernel
theorem dL_law__1782 : decode cL_law_ 1782 = .ok (.lcmp, 1) := by decide +kernel
theorem dL_law__1783 : decode cL_law_ 1783 = .ok (.ifCond .eq 5, 3) := by decide +kernel
theorem dL_law__1786 : decode cL_law_ 1786 = .ok (.iconst 0, 1) := by decide +kernel
theorem dL_law__1787 : decode cL_law_ 1787 = .ok (.ireturn, 1) := by decide +kernel
theorem dL_law__1788 : decode cL_law_ 1788 = .ok (.goto 842, 3) := by decide +kernel
theorem dL_law__1791 : decode cL_law_ 1791 = .ok (.aload_n 1, 1) := by decide +kernel
theorem dL_law__1792 : decode cL_law_ 1792 = .ok (.aload_n 0, 1) := by decide +kernel
theorem dL_law__1793 : decode cL_law_ 1793 = .ok (.iload 4, 2) := by decide +kernel
theorem dL_law__1795 : decode cL_law_ 1795 = .ok (.iconst 1, 1) := by decide +kernel
theorem dL_law__1796 : decode cL_law_ 1796 = .ok (.iadd, 1) := by decide +kernel
theorem dL_law__1797 : decode cL_law_ 1797 = .ok (.iaload, 1) := by decide +kernel
theorem dL_law__1798 : decode cL_law_ 1798 = .ok (.aload_n 3, 1) := by decide +kernel
theorem dL_law__1799 : decode cL_law_ 1799 = .ok (.invokestatic 208, 3) := by decide +kernel
theorem dL_law__1802 : decode cL_law_ 1802 = .ok (.istore 5, 2) := by decide +kernel
theorem dL_law__1804 : decode cL_law_ 1804 = .ok (.aload_n 2, 1) := by decide +kernel
theorem dL_law__1805 : decode cL_law_ 1805 = .ok (.aload_n 0, 1) := by decide +kernel
theorem dL_law__1806 : decode cL_law_ 1806 = .ok (.iload 4, 2) := by decide +kernel
theorem dL_law__1808 : decode cL_law_ 1808 = .ok (.iconst 1, 1) := by decide +kernel
theorem dL_law__1809 : decode cL_law_ 1809 = .ok (.iadd, 1) := by decide +kernel
theorem dL_law__1810 : decode cL_law_ 1810 = .ok (.iaload, 1) := by decide +kernel
theorem dL_law__1811 : decode cL_law_ 1811 = .ok (.invokevirtual 210, 3) := by decide +kernel
theorem dL_law__1814 : decode cL_law_ 1814 = .ok (.istore 6, 2) := by decide +kernel
theorem dL_law__1816 : decode cL_law_ 1816 = .ok (.aload_n 2, 1) := by decide +kernel
theorem dL_law__1817 : decode cL_law_ 1817 = .ok (.invokevirtual 132, 3) := by decide +kernel
theorem dL_law__1820 : decode cL_law_ 1820 = .ok (.iload 5, 2) := by decide +kernel
theorem dL_law__1822 : decode cL_law_ 1822 = .ok (.if_icmp .eq 5, 3) := by decide +kernel
theorem dL_law__1825 : decode cL_law_ 1825 = .ok (.iconst 0, 1) := by decide +kernel
theorem dL_law__1826 : decode cL_law_ 1826 = .ok (.ireturn, 1) := by decide +kernel
theorem dL_law__1827 : decode cL_law_ 1827 = .ok (.iload 5, 2) := by decide +kernel
theorem dL_law__1829 : decode cL_law_ 1829 = .ok (.ifCond .ne 15, 3) := by decide +kernel
theorem dL_law__1832 : decode cL_law_ 1832 = .ok (.aload_n 3, 1) := by decide +kernel
theorem dL_law__1833 : decode cL_law_ 1833 = .ok (.iconst 0, 1) := by decide +kernel
theorem dL_law__1834 : decode cL_law_ 1834 = .ok (.laload, 1) := by decide +kernel
theorem dL_law__1835 : decode cL_law_ 1835 = .ok (.iload 6, 2) := by decide +kernel
theorem dL_law__1837 : decode cL_law_ 1837 = .ok (.i2l, 1) := by decide +kernel
theorem dL_law__1838 : decode cL_law_ 1838 = .ok (.lcmp, 1) := by decide +kernel
theorem dL_law__1839 : decode cL_law_ 1839 = .ok (.ifCond .eq 5, 3) := by decide +kernel
theorem dL_law__1842 : decode cL_law_ 1842 = .ok (.iconst 0, 1) := by decide +kernel
theorem dL_law__1843 : decode cL_law_ 1843 = .ok (.ireturn, 1) := by decide +kernel
theorem dL_law__1844 : decode cL_law_ 1844 = .ok (.goto 786, 3) := by decide +kernel
theorem dL_law__1847 : decode cL_law_ 1847 = .ok (.aload_n 1, 1) := by decide +kernel
theorem dL_law__1848 : decode cL_law_ 1848 = .ok (.aload_n 0, 1) := by decide +kernel
theorem dL_law__1849 : decode cL_law_ 1849 = .ok (.iload 4, 2) := by decide +kernel
theorem dL_law__1851 : decode cL_law_ 1851 = .ok (.iconst 1, 1) := by decide +kernel
theorem dL_law__1852 : decode cL_law_ 1852 = .ok (.iadd, 1) := by decide +kernel
theorem dL_law__1853 : decode cL_law_ 1853 = .ok (.iaload, 1) := by decide +kernel
theorem dL_law__1854 : decode cL_law_ 1854 = .ok (.aload_n 3, 1) := by decide +kernel
theorem dL_law__1855 : decode cL_law_ 1855 = .ok (.invokestatic 211, 3) := by decide +kernel
theorem dL_law__1858 : decode cL_law_ 1858 = .ok (.istore 5, 2) := by decide +kernel
theorem dL_law__1860 : decode cL_law_ 1860 = .ok (.aload_n 2, 1) := by decide +kernel
theorem dL_law__1861 : decode cL_law_ 1861 = .ok (.aload_n 0, 1) := by decide +kernel
theorem dL_law__1862 : decode cL_law_ 1862 = .ok (.iload 4, 2) := by decide +kernel
theorem dL_law__1864 : decode cL_law_ 1864 = .ok (.iconst 1, 1) := by decide +kernel
theorem dL_law__1865 : decode cL_law_ 1865 = .ok (.iadd, 1) := by decide +kernel
theorem dL_law__1866 : decode cL_law_ 1866 = .ok (.iaload, 1) := by decide +kernel
theorem dL_law__1867 : decode cL_law_ 1867 = .ok (.invokevirtual 213, 3) := by decide +kernel
theorem dL_law__1870 : decode cL_law_ 1870 = .ok (.istore 6, 2) := by decide +kernel
theorem dL_law__1872 : decode cL_law_ 1872 = .ok (.aload_n 2, 1) := by decide +kernel
theorem dL_law__1873 : decode cL_law_ 1873 = .ok (.invokevirtual 132, 3) := by decide +kernel
theorem dL_law__1876 : decode cL_law_ 1876 = .ok (.iload 5, 2) := by decide +kernel
theorem dL_law__1878 : decode cL_law_ 1878 = .ok (.if_icmp .eq 5, 3) := by decide +kernel
theorem dL_law__1881 : decode cL_law_ 1881 = .ok (.iconst 0, 1) := by decide +kernel
theorem dL_law__1882 : decode cL_law_ 1882 = .ok (.ireturn, 1) := by decide +kernel
theorem dL_law__1883 : decode cL_law_ 1883 = .ok (.iload 5, 2) := by decide +kernel
theorem dL_law__1885 : decode cL_law_ 1885 = .ok (.ifCond .ne 15, 3) := by decide +kernel
theorem dL_law__1888 : decode cL_law_ 1888 = .ok (.aload_n 3, 1) := by decide +kernel
theorem dL_law__1889 : decode cL_law_ 1889 = .ok (.iconst 0, 1) := by decide +kernel
theorem dL_law__1890 : decode cL_law_ 1890 = .ok (.laload, 1) := by decide +kernel
theorem dL_law__1891 : decode cL_law_ 1891 = .ok (.iload 6, 2) := by decide +kernel
theorem dL_law__1893 : decode cL_law_ 1893 = .ok (.i2l, 1) := by decide +kernel
theorem dL_law__1894 : decode cL_law_ 1894 = .ok (.lcmp, 1) := by decide +kernel
theorem dL_law__1895 : decode cL_law_ 1895 = .ok (.ifCond .eq 5, 3) := by decide +kernel
theorem dL_law__1898 : decode cL_law_ 1898 = .ok (.iconst 0, 1) := by decide +kernel
theorem dL_law__1899 : decode cL_law_ 1899 = .ok (.ireturn, 1) := by decide +kernel
theorem dL_law__1900 : decode cL_law_ 1900 = .ok (.goto 730, 3) := by decide +kernel
theorem dL_law__1903 : decode cL_law_ 1903 = .ok (.aload_n 1, 1) := by decide +kernel
theorem dL_law__1904 : decode cL_law_ 1904 = .ok (.invokevirtual 214, 3) := by decide +kernel
theorem dL_law__1907 : decode cL_law_ 1907 = .ok (.aload_n 2, 1) := by decide +kernel
theorem dL_law__1908 : decode cL_law_ 1908 = .ok (.invokevirtual 217, 3) := by decide +kernel
theorem dL_law__1911 : decode cL_law_ 1911 = .ok (.if_icmp .eq 719, 3) := by decide +kernel
theorem dL_law__1914 : decode cL_law_ 1914 = .ok (.iconst 0, 1) := by decide +kernel
theorem dL_law__1915 : decode cL_law_ 1915 = .ok (.ireturn, 1) := by decide +kernel
theorem dL_law__1916 : decode cL_law_ 1916 = .ok (.aload_n 1, 1) := by decide +kernel
theorem dL_law__1917 : decode cL_law_ 1917 = .ok (.aload_n 0, 1) := by decide +kernel
theorem dL_law__1918 : decode cL_law_ 1918 = .ok (.iload 4, 2) := by decide +kernel
theorem dL_law__1920 : decode cL_law_ 1920 = .ok (.iconst 1, 1) := by decide +kernel
theorem dL_law__1921 : decode cL_law_ 1921 = .ok (.iadd, 1) := by decide +kernel
theorem dL_law__1922 : decode cL_law_ 1922 = .ok (.iaload, 1) := by decide +kernel
theorem dL_law__1923 : decode cL_law_ 1923 = .ok (.aload_n 0, 1) := by decide +kernel
theorem dL_law__1924 : decode cL_law_ 1924 = .ok (.iload 4, 2) := by decide +kernel
theorem dL_law__1926 : decode cL_law_ 1926 = .ok (.iconst 2, 1) := by decide +kernel
theorem dL_law__1927 : decode cL_law_ 1927 = .ok (.iadd, 1) := by decide +kernel
theorem dL_law__1928 : decode cL_law_ 1928 = .ok (.iaload, 1) := by decide +kernel
theorem dL_law__1929 : decode cL_law_ 1929 = .ok (.aload_n 3, 1) := by decide +kernel
theorem dL_law__1930 : decode cL_law_ 1930 = .ok (.invokestatic 218, 3) := by decide +kernel
theorem dL_law__1933 : decode cL_law_ 1933 = .ok (.istore 5, 2) := by decide +kernel
theorem dL_law__1935 : decode cL_law_ 1935 = .ok (.aload_n 2, 1) := by decide +kernel
theorem dL_law__1936 : decode cL_law_ 1936 = .ok (.aload_n 0, 1) := by decide +kernel
theorem dL_law__1937 : decode cL_law_ 1937 = .ok (.iload 4, 2) := by decide +kernel
theorem dL_law__1939 : decode cL_law_ 1939 = .ok (.iconst 1, 1) := by decide +kernel
theorem dL_law__1940 : decode cL_law_ 1940 = .ok (.iadd, 1) := by decide +kernel
theorem dL_law__1941 : decode cL_law_ 1941 = .ok (.iaload, 1) := by decide +kernel
theorem dL_law__1942 : decode cL_law_ 1942 = .ok (.aload_n 0, 1) := by decide +kernel
theorem dL_law__1943 : decode cL_law_ 1943 = .ok (.iload 4, 2) := by decide +kernel
theorem dL_law__1945 : decode cL_law_ 1945 = .ok (.iconst 2, 1) := by decide +kernel
theorem dL_law__1946 : decode cL_law_ 1946 = .ok (.iadd, 1) := by decide +kernel
theorem dL_law__1947 : decode cL_law_ 1947 = .ok (.iaload, 1) := by decide +kernel
theorem dL_law__1948 : decode cL_law_ 1948 = .ok (.invokevirtual 220, 3) := by decide +kernel
theorem dL_law__1951 : decode cL_law_ 1951 = .ok (.istore 6, 2) := by decide +kernel
theorem dL_law__1953 : decode cL_law_ 1953 = .ok (.aload_n 2, 1) := by decide +kernel
theorem dL_law__1954 : decode cL_law_ 1954 = .ok (.invokevirtual 132, 3) := by decide +kernel
theorem dL_law__1957 : decode cL_law_ 1957 = .ok (.iload 5, 2) := by decide +kernel
theorem dL_law__1959 : decode cL_law_ 1959 = .ok (.if_icmp .eq 5, 3) := by decide +kernel
theorem dL_law__1962 : decode cL_law_ 1962 = .ok (.iconst 0, 1) := by decide +kernel
theorem dL_law__1963 : decode cL_law_ 1963 = .ok (.ireturn, 1) := by decide +kernel
theorem dL_law__1964 : decode cL_law_ 1964 = .ok (.iload 5, 2) := by decide +kernel
theorem dL_law__1966 : decode cL_law_ 1966 = .ok (.ifCond .ne 15, 3) := by decide +kernel
theorem dL_law__1969 : decode cL_law_ 1969 = .ok (.aload_n 3, 1) := by decide +kernel
theorem dL_law__1970 : decode cL_law_ 1970 = .ok (.iconst 0, 1) := by decide +kernel
theorem dL_law__1971 : decode cL_law_ 1971 = .ok (.laload, 1) := by decide +kernel
theorem dL_law__1972 : decode cL_law_ 1972 = .ok (.iload 6, 2) := by decide +kernel
theorem dL_law__1974 : decode cL_law_ 1974 = .ok (.i2l, 1) := by decide +kernel
theorem dL_law__1975 : decode cL_law_ 1975 = .ok (.lcmp, 1) := by decide +kernel
theorem dL_law__1976 : decode cL_law_ 1976 = .ok (.ifCond .eq 5, 3) := by decide +kernel
theorem dL_law__1979 : decode cL_law_ 1979 = .ok (.iconst 0, 1) := by decide +kernel
theorem dL_law__1980 : decode cL_law_ 1980 = .ok (.ireturn, 1) := by decide +kernel
theorem dL_law__1981 : decode cL_law_ 1981 = .ok (.goto 649, 3) := by decide +kernel
theorem dL_law__1984 : decode cL_law_ 1984 = .ok (.aload_n 1, 1) := by decide +kernel
theorem dL_law__1985 : decode cL_law_ 1985 = .ok (.aload_n 0, 1) := by decide +kernel
theorem dL_law__1986 : decode cL_law_ 1986 = .ok (.iload 4, 2) := by decide +kernel
theorem dL_law__1988 : decode cL_law_ 1988 = .ok (.iconst 1, 1) := by decide +kernel
theorem dL_law__1989 : decode cL_law_ 1989 = .ok (.iadd, 1) := by decide +kernel
theorem dL_law__1990 : decode cL_law_ 1990 = .ok (.iaload, 1) := by decide +kernel
theorem dL_law__1991 : decode cL_law_ 1991 = .ok (.aload_n 3, 1) := by decide +kernel
theorem dL_law__1992 : decode cL_law_ 1992 = .ok (.invokestatic 221, 3) := by decide +kernel
theorem dL_law__1995 : decode cL_law_ 1995 = .ok (.istore 5, 2) := by decide +kernel
theorem dL_law__1997 : decode cL_law_ 1997 = .ok (.aload_n 2, 1) := by decide +kernel
theorem dL_law__1998 : decode cL_law_ 1998 = .ok (.aload_n 0, 1) := by decide +kernel
theorem dL_law__1999 : decode cL_law_ 1999 = .ok (.iload 4, 2) := by decide +kernel
theorem dL_law__2001 : decode cL_law_ 2001 = .ok (.iconst 1, 1) := by decide +kernel
theorem dL_law__2002 : decode cL_law_ 2002 = .ok (.iadd, 1) := by decide +kernel
theorem dL_law__2003 : decode cL_law_ 2003 = .ok (.iaload, 1) := by decide +kernel
theorem dL_law__2004 : decode cL_law_ 2004 = .ok (.invokevirtual 223, 3) := by decide +kernel
theorem dL_law__2007 : decode cL_law_ 2007 = .ok (.istore 6, 2) := by decide +kernel
theorem dL_law__2009 : decode cL_law_ 2009 = .ok (.aload_n 2, 1) := by decide +kernel
theorem dL_law__2010 : decode cL_law_ 2010 = .ok (.invokevirtual 132, 3) := by decide +kernel
theorem dL_law__2013 : decode cL_law_ 2013 = .ok (.iload 5, 2) := by decide +kernel
theorem dL_law__2015 : decode cL_law_ 2015 = .ok (.if_icmp .eq 5, 3) := by decide +kernel
theorem dL_law__2018 : decode cL_law_ 2018 = .ok (.iconst 0, 1) := by decide +kernel
theorem dL_law__2019 : decode cL_law_ 2019 = .ok (.ireturn, 1) := by decide +kernel
theorem dL_law__2020 : decode cL_law_ 2020 = .ok (.iload 5, 2) := by decide +kernel
theorem dL_law__2022 : decode cL_law_ 2022 = .ok (.ifCond .ne 15, 3) := by decide +kernel
theorem dL_law__2025 : decode cL_law_ 2025 = .ok (.aload_n 3, 1) := by decide +kernel
theorem dL_law__2026 : decode cL_law_ 2026 = .ok (.iconst 0, 1) := by decide +kernel
theorem dL_law__2027 : decode cL_law_ 2027 = .ok (.laload, 1) := by decide +kernel
theorem dL_law__2028 : decode cL_law_ 2028 = .ok (.iload 6, 2) := by decide +kernel
theorem dL_law__2030 : decode cL_law_ 2030 = .ok (.i2l, 1) := by decide +kernel
theorem dL_law__2031 : decode cL_law_ 2031 = .ok (.lcmp, 1) := by decide +kernel
theorem dL_law__2032 : decode cL_law_ 2032 = .ok (.ifCond .eq 5, 3) := by decide +kernel
theorem dL_law__2035 : decode cL_law_ 2035 = .ok (.iconst 0, 1) := by decide +kernel
theorem dL_law__2036 : decode cL_law_ 2036 = .ok (.ireturn, 1) := by decide +kernel
theorem dL_law__2037 : decode cL_law_ 2037 = .ok (.goto 593, 3) := by decide +kernel
theorem dL_law__2040 : decode cL_law_ 2040 = .ok (.aload_n 1, 1) := by decide +kernel
theorem dL_law__2041 : decode cL_law_ 2041 = .ok (.aload_n 0, 1) := by decide +kernel
theorem dL_law__2042 : decode cL_law_ 2042 = .ok (.iload 4, 2) := by decide +kernel
theorem dL_law__2044 : decode cL_law_ 2044 = .ok (.iconst 1, 1) := by decide +kernel
theorem dL_law__2045 : decode cL_law_ 2045 = .ok (.iadd, 1) := by decide +kernel
theorem dL_law__2046 : decode cL_law_ 2046 = .ok (.iaload, 1) := by decide +kernel
theorem dL_law__2047 : decode cL_law_ 2047 = .ok (.aload_n 3, 1) := by decide +kernel
theorem dL_law__2048 : decode cL_law_ 2048 = .ok (.invokestatic 224, 3) := by decide +kernel
theorem dL_law__2051 : decode cL_law_ 2051 = .ok (.istore 5, 2) := by decide +kernel
theorem dL_law__2053 : decode cL_law_ 2053 = .ok (.aload_n 2, 1) := by decide +kernel
theorem dL_law__2054 : decode cL_law_ 2054 = .ok (.aload_n 0, 1) := by decide +kernel
theorem dL_law__2055 : decode cL_law_ 2055 = .ok (.iload 4, 2) := by decide +kernel
theorem dL_law__2057 : decode cL_law_ 2057 = .ok (.iconst 1, 1) := by decide +kernel
theorem dL_law__2058 : decode cL_law_ 2058 = .ok (.iadd, 1) := by decide +kernel
theorem dL_law__2059 : decode cL_law_ 2059 = .ok (.iaload, 1) := by decide +kernel
theorem dL_law__2060 : decode cL_law_ 2060 = .ok (.invokevirtual 226, 3) := by decide +kernel
theorem dL_law__2063 : decode cL_law_ 2063 = .ok (.istore 6, 2) := by decide +kernel
theorem dL_law__2065 : decode cL_law_ 2065 = .ok (.aload_n 2, 1) := by decide +kernel
theorem dL_law__2066 : decode cL_law_ 2066 = .ok (.invokevirtual 132, 3) := by decide +kernel
theorem dL_law__2069 : decode cL_law_ 2069 = .ok (.iload 5, 2) := by decide +kernel
theorem dL_law__2071 : decode cL_law_ 2071 = .ok (.if_icmp .eq 5, 3) := by decide +kernel
theorem dL_law__2074 : decode cL_law_ 2074 = .ok (.iconst 0, 1) := by decide +kernel
theorem dL_law__2075 : decode cL_law_ 2075 = .ok (.ireturn, 1) := by decide +kernel
theorem dL_law__2076 : decode cL_law_ 2076 = .ok (.iload 5, 2) := by decide +kernel
theorem dL_law__2078 : decode cL_law_ 2078 = .ok (.ifCond .ne 15, 3) := by decide +kernel
theorem dL_law__2081 : decode cL_law_ 2081 = .ok (.aload_n 3, 1) := by decide +kernel
theorem dL_law__2082 : decode cL_law_ 2082 = .ok (.iconst 0, 1) := by decide +kernel
theorem dL_law__2083 : decode cL_law_ 2083 = .ok (.laload, 1) := by decide +kernel
theorem dL_law__2084 : decode cL_law_ 2084 = .ok (.iload 6, 2) := by decide +kernel
theorem dL_law__2086 : decode cL_law_ 2086 = .ok (.i2l, 1) := by decide +kernel
theorem dL_law__2087 : decode cL_law_ 2087 = .ok (.lcmp, 1) := by decide +kernel
theorem dL_law__2088 : decode cL_law_ 2088 = .ok (.ifCond .eq 5, 3) := by decide +kernel
theorem dL_law__2091 : decode cL_law_ 2091 = .ok (.iconst 0, 1) := by decide +kernel
theorem dL_law__2092 : decode cL_law_ 2092 = .ok (.ireturn, 1) := by decide +kernel
theorem dL_law__2093 : decode cL_law_ 2093 = .ok (.goto 537, 3) := by decide +kernel
theorem dL_law__2096 : decode cL_law_ 2096 = .ok (.aload_n 1, 1) := by decide +kernel
theorem dL_law__2097 : decode cL_law_ 2097 = .ok (.aload_n 0, 1) := by decide +kernel
theorem dL_law__2098 : decode cL_law_ 2098 = .ok (.iload 4, 2) := by decide +kernel
theorem dL_law__2100 : decode cL_law_ 2100 = .ok (.iconst 1, 1) := by decide +kernel
theorem dL_law__2101 : decode cL_law_ 2101 = .ok (.iadd, 1) := by decide +kernel
theorem dL_law__2102 : decode cL_law_ 2102 = .ok (.iaload, 1) := by decide +kernel
theorem dL_law__2103 : decode cL_law_ 2103 = .ok (.aload_n 0, 1) := by decide +kernel
theorem dL_law__2104 : decode cL_law_ 2104 = .ok (.iload 4, 2) := by decide +kernel
theorem dL_law__2106 : decode cL_law_ 2106 = .ok (.iconst 2, 1) := by decide +kernel
theorem dL_law__2107 : decode cL_law_ 2107 = .ok (.iadd, 1) := by decide +kernel
theorem dL_law__2108 : decode cL_law_ 2108 = .ok (.iaload, 1) := by decide +kernel
theorem dL_law__2109 : decode cL_law_ 2109 = .ok (.aload_n 3, 1) := by decide +kernel
theorem dL_law__2110 : decode cL_law_ 2110 = .ok (.invokestatic 227, 3) := by decide +kernel
theorem dL_law__2113 : decode cL_law_ 2113 = .ok (.istore 5, 2) := by decide +kernel
theorem dL_law__2115 : decode cL_law_ 2115 = .ok (.aload_n 2, 1) := by decide +kernel
theorem dL_law__2116 : decode cL_law_ 2116 = .ok (.aload_n 0, 1) := by decide +kernel
theorem dL_law__2117 : decode cL_law_ 2117 = .ok (.iload 4, 2) := by decide +kernel
theorem dL_law__2119 : decode cL_law_ 2119 = .ok (.iconst 1, 1) := by decide +kernel
theorem dL_law__2120 : decode cL_law_ 2120 = .ok (.iadd, 1) := by decide +kernel
theorem dL_law__2121 : decode cL_law_ 2121 = .ok (.iaload, 1) := by decide +kernel
theorem dL_law__2122 : decode cL_law_ 2122 = .ok (.aload_n 0, 1) := by decide +kernel
theorem dL_law__2123 : decode cL_law_ 2123 = .ok (.iload 4, 2) := by decide +kernel
theorem dL_law__2125 : decode cL_law_ 2125 = .ok (.iconst 2, 1) := by decide +kernel
theorem dL_law__2126 : decode cL_law_ 2126 = .ok (.iadd, 1) := by decide +kernel
theorem dL_law__2127 : decode cL_law_ 2127 = .ok (.iaload, 1) := by decide +kernel
theorem dL_law__2128 : decode cL_law_ 2128 = .ok (.invokevirtual 229, 3) := by decide +kernel
theorem dL_law__2131 : decode cL_law_ 2131 = .ok (.istore 6, 2) := by decide +kernel
theorem dL_law__2133 : decode cL_law_ 2133 = .ok (.aload_n 2, 1) := by decide +kernel
theorem dL_law__2134 : decode cL_law_ 2134 = .ok (.invokevirtual 132, 3) := by decide +kernel
theorem dL_law__2137 : decode cL_law_ 2137 = .ok (.iload 5, 2) := by decide +kernel
theorem dL_law__2139 : decode cL_law_ 2139 = .ok (.if_icmp .eq 5, 3) := by decide +kernel
theorem dL_law__2142 : decode cL_law_ 2142 = .ok (.iconst 0, 1) := by decide +kernel
theorem dL_law__2143 : decode cL_law_ 2143 = .ok (.ireturn, 1) := by decide +kernel
theorem dL_law__2144 : decode cL_law_ 2144 = .ok (.iload 5, 2) := by decide +kernel
theorem dL_law__2146 : decode cL_law_ 2146 = .ok (.ifCond .ne 15, 3) := by decide +kernel
theorem dL_law__2149 : decode cL_law_ 2149 = .ok (.aload_n 3, 1) := by decide +kernel
theorem dL_law__2150 : decode cL_law_ 2150 = .ok (.iconst 0, 1) := by decide +kernel
theorem dL_law__2151 : decode cL_law_ 2151 = .ok (.laload, 1) := by decide +kernel
theorem dL_law__2152 : decode cL_law_ 2152 = .ok (.iload 6, 2) := by decide +kernel
theorem dL_law__2154 : decode cL_law_ 2154 = .ok (.i2l, 1) := by decide +kernel
theorem dL_law__2155 : decode cL_law_ 2155 = .ok (.lcmp, 1) := by decide +kernel
theorem dL_law__2156 : decode cL_law_ 2156 = .ok (.ifCond .eq 5, 3) := by decide +kernel
theorem dL_law__2159 : decode cL_law_ 2159 = .ok (.iconst 0, 1) := by decide +kernel
theorem dL_law__2160 : decode cL_law_ 2160 = .ok (.ireturn, 1) := by decide +kernel
theorem dL_law__2161 : decode cL_law_ 2161 = .ok (.goto 469, 3) := by decide +kernel
theorem dL_law__2164 : decode cL_law_ 2164 = .ok (.aload_n 1, 1) := by decide +kernel
theorem dL_law__2165 : decode cL_law_ 2165 = .ok (.aload_n 0, 1) := by decide +kernel
theorem dL_law__2166 : decode cL_law_ 2166 = .ok (.iload 4, 2) := by decide +kernel
theorem dL_law__2168 : decode cL_law_ 2168 = .ok (.iconst 1, 1) := by decide +kernel
theorem dL_law__2169 : decode cL_law_ 2169 = .ok (.iadd, 1) := by decide +kernel
theorem dL_law__2170 : decode cL_law_ 2170 = .ok (.iaload, 1) := by decide +kernel
theorem dL_law__2171 : decode cL_law_ 2171 = .ok (.aload_n 0, 1) := by decide +kernel
theorem dL_law__2172 : decode cL_law_ 2172 = .ok (.iload 4, 2) := by decide +kernel
theorem dL_law__2174 : decode cL_law_ 2174 = .ok (.iconst 2, 1) := by decide +kernel
theorem dL_law__2175 : decode cL_law_ 2175 = .ok (.iadd, 1) := by decide +kernel
theorem dL_law__2176 : decode cL_law_ 2176 = .ok (.iaload, 1) := by decide +kernel
theorem dL_law__2177 : decode cL_law_ 2177 = .ok (.aload_n 3, 1) := by decide +kernel
theorem dL_law__2178 : decode cL_law_ 2178 = .ok (.invokestatic 230, 3) := by decide +kernel
theorem dL_law__2181 : decode cL_law_ 2181 = .ok (.istore 5, 2) := by decide +kernel
theorem dL_law__2183 : decode cL_law_ 2183 = .ok (.aload_n 2, 1) := by decide +kernel
theorem dL_law__2184 : decode cL_law_ 2184 = .ok (.aload_n 0, 1) := by decide +kernel
theorem dL_law__2185 : decode cL_law_ 2185 = .ok (.iload 4, 2) := by decide +kernel
theorem dL_law__2187 : decode cL_law_ 2187 = .ok (.iconst 1, 1) := by decide +kernel
theorem dL_law__2188 : decode cL_law_ 2188 = .ok (.iadd, 1) := by decide +kernel
theorem dL_law__2189 : decode cL_law_ 2189 = .ok (.iaload, 1) := by decide +kernel
theorem dL_law__2190 : decode cL_law_ 2190 = .ok (.aload_n 0, 1) := by decide +kernel
theorem dL_law__2191 : decode cL_law_ 2191 = .ok (.iload 4, 2) := by decide +kernel
theorem dL_law__2193 : decode cL_law_ 2193 = .ok (.iconst 2, 1) := by decide +kernel
theorem dL_law__2194 : decode cL_law_ 2194 = .ok (.iadd, 1) := by decide +kernel
theorem dL_law__2195 : decode cL_law_ 2195 = .ok (.iaload, 1) := by decide +kernel
theorem dL_law__2196 : decode cL_law_ 2196 = .ok (.invokevirtual 232, 3) := by decide +kernel
theorem dL_law__2199 : decode cL_law_ 2199 = .ok (.istore 6, 2) := by decide +kernel
theorem dL_law__2201 : decode cL_law_ 2201 = .ok (.aload_n 2, 1) := by decide +kernel
theorem dL_law__2202 : decode cL_law_ 2202 = .ok (.invokevirtual 132, 3) := by decide +kernel
theorem dL_law__2205 : decode cL_law_ 2205 = .ok (.iload 5, 2) := by decide +kernel
theorem dL_law__2207 : decode cL_law_ 2207 = .ok (.if_icmp .eq 5, 3) := by decide +kernel
theorem dL_law__2210 : decode cL_law_ 2210 = .ok (.iconst 0, 1) := by decide +kernel
theorem dL_law__2211 : decode cL_law_ 2211 = .ok (.ireturn, 1) := by decide +kernel
theorem dL_law__2212 : decode cL_law_ 2212 = .ok (.iload 5, 2) := by decide +kernel
theorem dL_law__2214 : decode cL_law_ 2214 = .ok (.ifCond .ne 15, 3) := by decide +kernel
theorem dL_law__2217 : decode cL_law_ 2217 = .ok (.aload_n 3, 1) := by decide +kernel
theorem dL_law__2218 : decode cL_law_ 2218 = .ok (.iconst 0, 1) := by decide +kernel
theorem dL_law__2219 : decode cL_law_ 2219 = .ok (.laload, 1) := by decide +kernel
theorem dL_law__2220 : decode cL_law_ 2220 = .ok (.iload 6, 2) := by decide +kernel
theorem dL_law__2222 : decode cL_law_ 2222 = .ok (.i2l, 1) := by decide +kernel
theorem dL_law__2223 : decode cL_law_ 2223 = .ok (.lcmp, 1) := by decide +kernel
theorem dL_law__2224 : decode cL_law_ 2224 = .ok (.ifCond .eq 5, 3) := by decide +kernel
theorem dL_law__2227 : decode cL_law_ 2227 = .ok (.iconst 0, 1) := by decide +kernel
theorem dL_law__2228 : decode cL_law_ 2228 = .ok (.ireturn, 1) := by decide +kernel
theorem dL_law__2229 : decode cL_law_ 2229 = .ok (.goto 401, 3) := by decide +kernel
theorem dL_law__2232 : decode cL_law_ 2232 = .ok (.aload_n 1, 1) := by decide +kernel
theorem dL_law__2233 : decode cL_law_ 2233 = .ok (.aload_n 0, 1) := by decide +kernel
theorem dL_law__2234 : decode cL_law_ 2234 = .ok (.iload 4, 2) := by decide +kernel
theorem dL_law__2236 : decode cL_law_ 2236 = .ok (.iconst 1, 1) := by decide +kernel
theorem dL_law__2237 : decode cL_law_ 2237 = .ok (.iadd, 1) := by decide +kernel
theorem dL_law__2238 : decode cL_law_ 2238 = .ok (.iaload, 1) := by decide +kernel
theorem dL_law__2239 : decode cL_law_ 2239 = .ok (.aload_n 3, 1) := by decide +kernel
theorem dL_law__2240 : decode cL_law_ 2240 = .ok (.invokestatic 233, 3) := by decide +kernel
theorem dL_law__2243 : decode cL_law_ 2243 = .ok (.istore 5, 2) := by decide +kernel
theorem dL_law__2245 : decode cL_law_ 2245 = .ok (.aload_n 2, 1) := by decide +kernel
theorem dL_law__2246 : decode cL_law_ 2246 = .ok (.aload_n 0, 1) := by decide +kernel
theorem dL_law__2247 : decode cL_law_ 2247 = .ok (.iload 4, 2) := by decide +kernel
theorem dL_law__2249 : decode cL_law_ 2249 = .ok (.iconst 1, 1) := by decide +kernel
theorem dL_law__2250 : decode cL_law_ 2250 = .ok (.iadd, 1) := by decide +kernel
theorem dL_law__2251 : decode cL_law_ 2251 = .ok (.iaload, 1) := by decide +kernel
theorem dL_law__2252 : decode cL_law_ 2252 = .ok (.invokevirtual 235, 3) := by decide +kernel
theorem dL_law__2255 : decode cL_law_ 2255 = .ok (.istore 6, 2) := by decide +kernel
theorem dL_law__2257 : decode cL_law_ 2257 = .ok (.aload_n 2, 1) := by decide +kernel
theorem dL_law__2258 : decode cL_law_ 2258 = .ok (.invokevirtual 132, 3) := by decide +kernel
theorem dL_law__2261 : decode cL_law_ 2261 = .ok (.iload 5, 2) := by decide +kernel
theorem dL_law__2263 : decode cL_law_ 2263 = .ok (.if_icmp .eq 5, 3) := by decide +kernel
theorem dL_law__2266 : decode cL_law_ 2266 = .ok (.iconst 0, 1) := by decide +kernel
theorem dL_law__2267 : decode cL_law_ 2267 = .ok (.ireturn, 1) := by decide +kernel
theorem dL_law__2268 : decode cL_law_ 2268 = .ok (.iload 5, 2) := by decide +kernel
theorem dL_law__2270 : decode cL_law_ 2270 = .ok (.ifCond .ne 15, 3) := by decide +kernel
theorem dL_law__2273 : decode cL_law_ 2273 = .ok (.aload_n 3, 1) := by decide +kernel
theorem dL_law__2274 : decode cL_law_ 2274 = .ok (.iconst 0, 1) := by decide +kernel
theorem dL_law__2275 : decode cL_law_ 2275 = .ok (.laload, 1) := by decide +kernel
theorem dL_law__2276 : decode cL_law_ 2276 = .ok (.iload 6, 2) := by decide +kernel
theorem dL_law__2278 : decode cL_law_ 2278 = .ok (.i2l, 1) := by decide +kernel
theorem dL_law__2279 : decode cL_law_ 2279 = .ok (.lcmp, 1) := by decide +kernel
theorem dL_law__2280 : decode cL_law_ 2280 = .ok (.ifCond .eq 5, 3) := by decide +kernel
theorem dL_law__2283 : decode cL_law_ 2283 = .ok (.iconst 0, 1) := by decide +kernel
theorem dL_law__2284 : decode cL_law_ 2284 = .ok (.ireturn, 1) := by decide +kernel
theorem dL_law__2285 : decode cL_law_ 2285 = .ok (.goto 345, 3) := by decide +kernel
theorem dL_law__2288 : decode cL_law_ 2288 = .ok (.aload_n 1, 1) := by decide +kernel
theorem dL_law__2289 : decode cL_law_ 2289 = .ok (.aload_n 0, 1) := by decide +kernel
theorem dL_law__2290 : decode cL_law_ 2290 = .ok (.iload 4, 2) := by decide +kernel
theorem dL_law__2292 : decode cL_law_ 2292 = .ok (.iconst 1, 1) := by decide +kernel
theorem dL_law__2293 : decode cL_law_ 2293 = .ok (.iadd, 1) := by decide +kernel
theorem dL_law__2294 : decode cL_law_ 2294 = .ok (.iaload, 1) := by decide +kernel
theorem dL_law__2295 : decode cL_law_ 2295 = .ok (.aload_n 3, 1) := by decide +kernel
theorem dL_law__2296 : decode cL_law_ 2296 = .ok (.invokestatic 236, 3) := by decide +kernel
theorem dL_law__2299 : decode cL_law_ 2299 = .ok (.istore 5, 2) := by decide +kernel
theorem dL_law__2301 : decode cL_law_ 2301 = .ok (.aload_n 2, 1) := by decide +kernel
theorem dL_law__2302 : decode cL_law_ 2302 = .ok (.aload_n 0, 1) := by decide +kernel
theorem dL_law__2303 : decode cL_law_ 2303 = .ok (.iload 4, 2) := by decide +kernel
theorem dL_law__2305 : decode cL_law_ 2305 = .ok (.iconst 1, 1) := by decide +kernel
theorem dL_law__2306 : decode cL_law_ 2306 = .ok (.iadd, 1) := by decide +kernel
theorem dL_law__2307 : decode cL_law_ 2307 = .ok (.iaload, 1) := by decide +kernel
theorem dL_law__2308 : decode cL_law_ 2308 = .ok (.invokevirtual 238, 3) := by decide +kernel
theorem dL_law__2311 : decode cL_law_ 2311 = .ok (.istore 6, 2) := by decide +kernel
theorem dL_law__2313 : decode cL_law_ 2313 = .ok (.aload_n 2, 1) := by decide +kernel
theorem dL_law__2314 : decode cL_law_ 2314 = .ok (.invokevirtual 132, 3) := by decide +kernel
theorem dL_law__2317 : decode cL_law_ 2317 = .ok (.iload 5, 2) := by decide +kernel
theorem dL_law__2319 : decode cL_law_ 2319 = .ok (.if_icmp .eq 5, 3) := by decide +kernel
theorem dL_law__2322 : decode cL_law_ 2322 = .ok (.iconst 0, 1) := by decide +kernel
theorem dL_law__2323 : decode cL_law_ 2323 = .ok (.ireturn, 1) := by decide +kernel
theorem dL_law__2324 : decode cL_law_ 2324 = .ok (.iload 5, 2) := by decide +kernel
theorem dL_law__2326 : decode cL_law_ 2326 = .ok (.ifCond .ne 15, 3) := by decide +kernel
theorem dL_law__2329 : decode cL_law_ 2329 = .ok (.aload_n 3, 1) := by decide +kernel
theorem dL_law__2330 : decode cL_law_ 2330 = .ok (.iconst 0, 1) := by decide +kernel
theorem dL_law__2331 : decode cL_law_ 2331 = .ok (.laload, 1) := by decide +kernel
theorem dL_law__2332 : decode cL_law_ 2332 = .ok (.iload 6, 2) := by decide +kernel
theorem dL_law__2334 : decode cL_law_ 2334 = .ok (.i2l, 1) := by decide +kernel
theorem dL_law__2335 : decode cL_law_ 2335 = .ok (.lcmp, 1) := by decide +kernel
theorem dL_law__2336 : decode cL_law_ 2336 = .ok (.ifCond .eq 5, 3) := by decide +kernel
theorem dL_law__2339 : decode cL_law_ 2339 = .ok (.iconst 0, 1) := by decide +kernel
theorem dL_law__2340 : decode cL_law_ 2340 = .ok (.ireturn, 1) := by decide +kernel
theorem dL_law__2341 : decode cL_law_ 2341 = .ok (.goto 289, 3) := by decide +kernel
theorem dL_law__2344 : decode cL_law_ 2344 = .ok (.aload_n 1, 1) := by decide +kernel
theorem dL_law__2345 : decode cL_law_ 2345 = .ok (.aload_n 0, 1) := by decide +kernel
theorem dL_law__2346 : decode cL_law_ 2346 = .ok (.iload 4, 2) := by decide +kernel
theorem dL_law__2348 : decode cL_law_ 2348 = .ok (.iconst 1, 1) := by decide +kernel
theorem dL_law__2349 : decode cL_law_ 2349 = .ok (.iadd, 1) := by decide +kernel
theorem dL_law__2350 : decode cL_law_ 2350 = .ok (.iaload, 1) := by decide +kernel
theorem dL_law__2351 : decode cL_law_ 2351 = .ok (.aload_n 0, 1) := by decide +kernel
theorem dL_law__2352 : decode cL_law_ 2352 = .ok (.iload 4, 2) := by decide +kernel
theorem dL_law__2354 : decode cL_law_ 2354 = .ok (.iconst 2, 1) := by decide +kernel
theorem dL_law__2355 : decode cL_law_ 2355 = .ok (.iadd, 1) := by decide +kernel
theorem dL_law__2356 : decode cL_law_ 2356 = .ok (.iaload, 1) := by decide +kernel
theorem dL_law__2357 : decode cL_law_ 2357 = .ok (.aload_n 0, 1) := by decide +kernel
theorem dL_law__2358 : decode cL_law_ 2358 = .ok (.iload 4, 2) := by decide +kernel
theorem dL_law__2360 : decode cL_law_ 2360 = .ok (.iconst 3, 1) := by decide +kernel
theorem dL_law__2361 : decode cL_law_ 2361 = .ok (.iadd, 1) := by decide +kernel
theorem dL_law__2362 : decode cL_law_ 2362 = .ok (.iaload, 1) := by decide +kernel
theorem dL_law__2363 : decode cL_law_ 2363 = .ok (.aload_n 0, 1) := by decide +kernel
theorem dL_law__2364 : decode cL_law_ 2364 = .ok (.iload 4, 2) := by decide +kernel
theorem dL_law__2366 : decode cL_law_ 2366 = .ok (.iconst 4, 1) := by decide +kernel
theorem dL_law__2367 : decode cL_law_ 2367 = .ok (.iadd, 1) := by decide +kernel
theorem dL_law__2368 : decode cL_law_ 2368 = .ok (.iaload, 1) := by decide +kernel
theorem dL_law__2369 : decode cL_law_ 2369 = .ok (.aload_n 3, 1) := by decide +kernel
theorem dL_law__2370 : decode cL_law_ 2370 = .ok (.invokestatic 239, 3) := by decide +kernel
theorem dL_law__2373 : decode cL_law_ 2373 = .ok (.istore 5, 2) := by decide +kernel
theorem dL_law__2375 : decode cL_law_ 2375 = .ok (.aload_n 2, 1) := by decide +kernel
theorem dL_law__2376 : decode cL_law_ 2376 = .ok (.aload_n 0, 1) := by decide +kernel
theorem dL_law__2377 : decode cL_law_ 2377 = .ok (.iload 4, 2) := by decide +kernel
theorem dL_law__2379 : decode cL_law_ 2379 = .ok (.iconst 1, 1) := by decide +kernel
theorem dL_law__2380 : decode cL_law_ 2380 = .ok (.iadd, 1) := by decide +kernel
theorem dL_law__2381 : decode cL_law_ 2381 = .ok (.iaload, 1) := by decide +kernel
theorem dL_law__2382 : decode cL_law_ 2382 = .ok (.aload_n 0, 1) := by decide +kernel
theorem dL_law__2383 : decode cL_law_ 2383 = .ok (.iload 4, 2) := by decide +kernel
theorem dL_law__2385 : decode cL_law_ 2385 = .ok (.iconst 2, 1) := by decide +kernel
theorem dL_law__2386 : decode cL_law_ 2386 = .ok (.iadd, 1) := by decide +kernel
theorem dL_law__2387 : decode cL_law_ 2387 = .ok (.iaload, 1) := by decide +kernel
theorem dL_law__2388 : decode cL_law_ 2388 = .ok (.aload_n 0, 1) := by decide +kernel
theorem dL_law__2389 : decode cL_law_ 2389 = .ok (.iload 4, 2) := by decide +kernel
theorem dL_law__2391 : decode cL_law_ 2391 = .ok (.iconst 3, 1) := by decide +kernel
theorem dL_law__2392 : decode cL_law_ 2392 = .ok (.iadd, 1) := by decide +kernel
theorem dL_law__2393 : decode cL_law_ 2393 = .ok (.iaload, 1) := by decide +kernel
theorem dL_law__2394 : decode cL_law_ 2394 = .ok (.aload_n 0, 1) := by decide +kernel
theorem dL_law__2395 : decode cL_law_ 2395 = .ok (.iload 4, 2) := by decide +kernel
theorem dL_law__2397 : decode cL_law_ 2397 = .ok (.iconst 4, 1) := by decide +kernel
theorem dL_law__2398 : decode cL_law_ 2398 = .ok (.iadd, 1) := by decide +kernel
theorem dL_law__2399 : decode cL_law_ 2399 = .ok (.iaload, 1) := by decide +kernel
theorem dL_law__2400 : decode cL_law_ 2400 = .ok (.invokevirtual 241, 3) := by decide +kernel
theorem dL_law__2403 : decode cL_law_ 2403 = .ok (.istore 6, 2) := by decide +kernel
theorem dL_law__2405 : decode cL_law_ 2405 = .ok (.aload_n 2, 1) := by decide +kernel
theorem dL_law__2406 : decode cL_law_ 2406 = .ok (.invokevirtual 132, 3) := by decide +kernel
theorem dL_law__2409 : decode cL_law_ 2409 = .ok (.iload 5, 2) := by decide +kernel
theorem dL_law__2411 : decode cL_law_ 2411 = .ok (.if_icmp .eq 5, 3) := by decide +kernel
theorem dL_law__2414 : decode cL_law_ 2414 = .ok (.iconst 0, 1) := by decide +kernel
theorem dL_law__2415 : decode cL_law_ 2415 = .ok (.ireturn, 1) := by decide +kernel
theorem dL_law__2416 : decode cL_law_ 2416 = .ok (.iload 5, 2) := by decide +kernel
theorem dL_law__2418 : decode cL_law_ 2418 = .ok (.ifCond .ne 15, 3) := by decide +kernel
theorem dL_law__2421 : decode cL_law_ 2421 = .ok (.aload_n 3, 1) := by decide +kernel
theorem dL_law__2422 : decode cL_law_ 2422 = .ok (.iconst 0, 1) := by decide +kernel
theorem dL_law__2423 : decode cL_law_ 2423 = .ok (.laload, 1) := by decide +kernel
theorem dL_law__2424 : decode cL_law_ 2424 = .ok (.iload 6, 2) := by decide +kernel
theorem dL_law__2426 : decode cL_law_ 2426 = .ok (.i2l, 1) := by decide +kernel
theorem dL_law__2427 : decode cL_law_ 2427 = .ok (.lcmp, 1) := by decide +kernel
theorem dL_law__2428 : decode cL_law_ 2428 = .ok (.ifCond .eq 5, 3) := by decide +kernel
theorem dL_law__2431 : decode cL_law_ 2431 = .ok (.iconst 0, 1) := by decide +kernel
theorem dL_law__2432 : decode cL_law_ 2432 = .ok (.ireturn, 1) := by decide +kernel
theorem dL_law__2433 : decode cL_law_ 2433 = .ok (.goto 197, 3) := by decide +kernel
theorem dL_law__2436 : decode cL_law_ 2436 = .ok (.aload_n 1, 1) := by decide +kernel
theorem dL_law__2437 : decode cL_law_ 2437 = .ok (.aload_n 0, 1) := by decide +kernel
theorem dL_law__2438 : decode cL_law_ 2438 = .ok (.iload 4, 2) := by decide +kernel
theorem dL_law__2440 : decode cL_law_ 2440 = .ok (.iconst 1, 1) := by decide +kernel
theorem dL_law__2441 : decode cL_law_ 2441 = .ok (.iadd, 1) := by decide +kernel
theorem dL_law__2442 : decode cL_law_ 2442 = .ok (.iaload, 1) := by decide +kernel
theorem dL_law__2443 : decode cL_law_ 2443 = .ok (.aload_n 0, 1) := by decide +kernel
theorem dL_law__2444 : decode cL_law_ 2444 = .ok (.iload 4, 2) := by decide +kernel
theorem dL_law__2446 : decode cL_law_ 2446 = .ok (.iconst 2, 1) := by decide +kernel
theorem dL_law__2447 : decode cL_law_ 2447 = .ok (.iadd, 1) := by decide +kernel
theorem dL_law__2448 : decode cL_law_ 2448 = .ok (.iaload, 1) := by decide +kernel
theorem dL_law__2449 : decode cL_law_ 2449 = .ok (.aload_n 0, 1) := by decide +kernel
theorem dL_law__2450 : decode cL_law_ 2450 = .ok (.iload 4, 2) := by decide +kernel
theorem dL_law__2452 : decode cL_law_ 2452 = .ok (.iconst 3, 1) := by decide +kernel
theorem dL_law__2453 : decode cL_law_ 2453 = .ok (.iadd, 1) := by decide +kernel
theorem dL_law__2454 : decode cL_law_ 2454 = .ok (.iaload, 1) := by decide +kernel
theorem dL_law__2455 : decode cL_law_ 2455 = .ok (.aload_n 0, 1) := by decide +kernel
theorem dL_law__2456 : decode cL_law_ 2456 = .ok (.iload 4, 2) := by decide +kernel
theorem dL_law__2458 : decode cL_law_ 2458 = .ok (.iconst 4, 1) := by decide +kernel
theorem dL_law__2459 : decode cL_law_ 2459 = .ok (.iadd, 1) := by decide +kernel
theorem dL_law__2460 : decode cL_law_ 2460 = .ok (.iaload, 1) := by decide +kernel
theorem dL_law__2461 : decode cL_law_ 2461 = .ok (.aload_n 0, 1) := by decide +kernel
theorem dL_law__2462 : decode cL_law_ 2462 = .ok (.iload 4, 2) := by decide +kernel
theorem dL_law__2464 : decode cL_law_ 2464 = .ok (.iconst 5, 1) := by decide +kernel
theorem dL_law__2465 : decode cL_law_ 2465 = .ok (.iadd, 1) := by decide +kernel
theorem dL_law__2466 : decode cL_law_ 2466 = .ok (.iaload, 1) := by decide +kernel
theorem dL_law__2467 : decode cL_law_ 2467 = .ok (.aload_n 0, 1) := by decide +kernel
theorem dL_law__2468 : decode cL_law_ 2468 = .ok (.iload 4, 2) := by decide +kernel
theorem dL_law__2470 : decode cL_law_ 2470 = .ok (.bipush 6, 2) := by decide +kernel
theorem dL_law__2472 : decode cL_law_ 2472 = .ok (.iadd, 1) := by decide +kernel
theorem dL_law__2473 : decode cL_law_ 2473 = .ok (.iaload, 1) := by decide +kernel
theorem dL_law__2474 : decode cL_law_ 2474 = .ok (.aload_n 3, 1) := by decide +kernel
theorem dL_law__2475 : decode cL_law_ 2475 = .ok (.invokestatic 242, 3) := by decide +kernel
theorem dL_law__2478 : decode cL_law_ 2478 = .ok (.istore 5, 2) := by decide +kernel
theorem dL_law__2480 : decode cL_law_ 2480 = .ok (.aload_n 2, 1) := by decide +kernel
theorem dL_law__2481 : decode cL_law_ 2481 = .ok (.aload_n 0, 1) := by decide +kernel
theorem dL_law__2482 : decode cL_law_ 2482 = .ok (.iload 4, 2) := by decide +kernel
theorem dL_law__2484 : decode cL_law_ 2484 = .ok (.iconst 1, 1) := by decide +kernel
theorem dL_law__2485 : decode cL_law_ 2485 = .ok (.iadd, 1) := by decide +kernel
theorem dL_law__2486 : decode cL_law_ 2486 = .ok (.iaload, 1) := by decide +kernel
theorem dL_law__2487 : decode cL_law_ 2487 = .ok (.aload_n 0, 1) := by decide +kernel
theorem dL_law__2488 : decode cL_law_ 2488 = .ok (.iload 4, 2) := by decide +kernel
theorem dL_law__2490 : decode cL_law_ 2490 = .ok (.iconst 2, 1) := by decide +kernel
theorem dL_law__2491 : decode cL_law_ 2491 = .ok (.iadd, 1) := by decide +kernel
theorem dL_law__2492 : decode cL_law_ 2492 = .ok (.iaload, 1) := by decide +kernel
theorem dL_law__2493 : decode cL_law_ 2493 = .ok (.aload_n 0, 1) := by decide +kernel
theorem dL_law__2494 : decode cL_law_ 2494 = .ok (.iload 4, 2) := by decide +kernel
theorem dL_law__2496 : decode cL_law_ 2496 = .ok (.iconst 3, 1) := by decide +kernel
theorem dL_law__2497 : decode cL_law_ 2497 = .ok (.iadd, 1) := by decide +kernel
theorem dL_law__2498 : decode cL_law_ 2498 = .ok (.iaload, 1) := by decide +kernel
theorem dL_law__2499 : decode cL_law_ 2499 = .ok (.aload_n 0, 1) := by decide +kernel
theorem dL_law__2500 : decode cL_law_ 2500 = .ok (.iload 4, 2) := by decide +kernel
theorem dL_law__2502 : decode cL_law_ 2502 = .ok (.iconst 4, 1) := by decide +kernel
theorem dL_law__2503 : decode cL_law_ 2503 = .ok (.iadd, 1) := by decide +kernel
theorem dL_law__2504 : decode cL_law_ 2504 = .ok (.iaload, 1) := by decide +kernel
theorem dL_law__2505 : decode cL_law_ 2505 = .ok (.aload_n 0, 1) := by decide +kernel
theorem dL_law__2506 : decode cL_law_ 2506 = .ok (.iload 4, 2) := by decide +kernel
theorem dL_law__2508 : decode cL_law_ 2508 = .ok (.iconst 5, 1) := by decide +kernel
theorem dL_law__2509 : decode cL_law_ 2509 = .ok (.iadd, 1) := by decide +kernel
theorem dL_law__2510 : decode cL_law_ 2510 = .ok (.iaload, 1) := by decide +kernel
theorem dL_law__2511 : decode cL_law_ 2511 = .ok (.aload_n 0, 1) := by decide +kernel
theorem dL_law__2512 : decode cL_law_ 2512 = .ok (.iload 4, 2) := by decide +kernel
theorem dL_law__2514 : decode cL_law_ 2514 = .ok (.bipush 6, 2) := by decide +kernel
theorem dL_law__2516 : decode cL_law_ 2516 = .ok (.iadd, 1) := by decide +kernel
theorem dL_law__2517 : decode cL_law_ 2517 = .ok (.iaload, 1) := by decide +kernel
theorem dL_law__2518 : decode cL_law_ 2518 = .ok (.invokevirtual 245, 3) := by decide +kernel
theorem dL_law__2521 : decode cL_law_ 2521 = .ok (.istore 6, 2) := by decide +kernel
theorem dL_law__2523 : decode cL_law_ 2523 = .ok (.aload_n 2, 1) := by decide +kernel
theorem dL_law__2524 : decode cL_law_ 2524 = .ok (.invokevirtual 132, 3) := by decide +kernel
theorem dL_law__2527 : decode cL_law_ 2527 = .ok (.iload 5, 2) := by decide +kernel
theorem dL_law__2529 : decode cL_law_ 2529 = .ok (.if_icmp .eq 5, 3) := by decide +kernel
theorem dL_law__2532 : decode cL_law_ 2532 = .ok (.iconst 0, 1) := by decide +kernel
theorem dL_law__2533 : decode cL_law_ 2533 = .ok (.ireturn, 1) := by decide +kernel
theorem dL_law__2534 : decode cL_law_ 2534 = .ok (.iload 5, 2) := by decide +kernel
theorem dL_law__2536 : decode cL_law_ 2536 = .ok (.ifCond .ne 15, 3) := by decide +kernel
theorem dL_law__2539 : decode cL_law_ 2539 = .ok (.aload_n 3, 1) := by decide +kernel
theorem dL_law__2540 : decode cL_law_ 2540 = .ok (.iconst 0, 1) := by decide +kernel
theorem dL_law__2541 : decode cL_law_ 2541 = .ok (.laload, 1) := by decide +kernel
theorem dL_law__2542 : decode cL_law_ 2542 = .ok (.iload 6, 2) := by decide +kernel
theorem dL_law__2544 : decode cL_law_ 2544 = .ok (.i2l, 1) := by decide +kernel
theorem dL_law__2545 : decode cL_law_ 2545 = .ok (.lcmp, 1) := by decide +kernel
theorem dL_law__2546 : decode cL_law_ 2546 = .ok (.ifCond .eq 5, 3) := by decide +kernel
theorem dL_law__2549 : decode cL_law_ 2549 = .ok (.iconst 0, 1) := by decide +kernel
theorem dL_law__2550 : decode cL_law_ 2550 = .ok (.ireturn, 1) := by decide +kernel
theorem dL_law__2551 : decode cL_law_ 2551 = .ok (.goto 79, 3) := by decide +kernel
theorem dL_law__2554 : decode cL_law_ 2554 = .ok (.aload_n 1, 1) := by decide +kernel
theorem dL_law__2555 : decode cL_law_ 2555 = .ok (.invokevirtual 246, 3) := by decide +kernel
theorem dL_law__2558 : decode cL_law_ 2558 = .ok (.aload_n 2, 1) := by decide +kernel
theorem dL_law__2559 : decode cL_law_ 2559 = .ok (.invokevirtual 249, 3) := by decide +kernel
theorem dL_law__2562 : decode cL_law_ 2562 = .ok (.if_icmp .eq 68, 3) := by decide +kernel
theorem dL_law__2565 : decode cL_law_ 2565 = .ok (.iconst 0, 1) := by decide +kernel
theorem dL_law__2566 : decode cL_law_ 2566 = .ok (.ireturn, 1) := by decide +kernel
theorem dL_law__2567 : decode cL_law_ 2567 = .ok (.aload_n 1, 1) := by decide +kernel
theorem dL_law__2568 : decode cL_law_ 2568 = .ok (.invokevirtual 250, 3) := by decide +kernel
theorem dL_law__2571 : decode cL_law_ 2571 = .ok (.aload_n 2, 1) := by decide +kernel
theorem dL_law__2572 : decode cL_law_ 2572 = .ok (.invokevirtual 253, 3) := by decide +kernel
theorem dL_law__2575 : decode cL_law_ 2575 = .ok (.if_icmp .eq 55, 3) := by decide +kernel
theorem dL_law__2578 : decode cL_law_ 2578 = .ok (.iconst 0, 1) := by decide +kernel
theorem dL_law__2579 : decode cL_law_ 2579 = .ok (.ireturn, 1) := by decide +kernel
theorem dL_law__2580 : decode cL_law_ 2580 = .ok (.aload_n 1, 1) := by decide +kernel
theorem dL_law__2581 : decode cL_law_ 2581 = .ok (.aload_n 0, 1) := by decide +kernel
theorem dL_law__2582 : decode cL_law_ 2582 = .ok (.iload 4, 2) := by decide +kernel
theorem dL_law__2584 : decode cL_law_ 2584 = .ok (.iconst 1, 1) := by decide +kernel
theorem dL_law__2585 : decode cL_law_ 2585 = .ok (.iadd, 1) := by decide +kernel
theorem dL_law__2586 : decode cL_law_ 2586 = .ok (.iaload, 1) := by decide +kernel
theorem dL_law__2587 : decode cL_law_ 2587 = .ok (.invokevirtual 254, 3) := by decide +kernel
theorem dL_law__2590 : decode cL_law_ 2590 = .ok (.aload_n 2, 1) := by decide +kernel
theorem dL_law__2591 : decode cL_law_ 2591 = .ok (.aload_n 0, 1) := by decide +kernel
theorem dL_law__2592 : decode cL_law_ 2592 = .ok (.iload 4, 2) := by decide +kernel
theorem dL_law__2594 : decode cL_law_ 2594 = .ok (.iconst 1, 1) := by decide +kernel
theorem dL_law__2595 : decode cL_law_ 2595 = .ok (.iadd, 1) := by decide +kernel
theorem dL_law__2596 : decode cL_law_ 2596 = .ok (.iaload, 1) := by decide +kernel
theorem dL_law__2597 : decode cL_law_ 2597 = .ok (.invokevirtual 257, 3) := by decide +kernel
theorem dL_law__2600 : decode cL_law_ 2600 = .ok (.if_icmp .eq 30, 3) := by decide +kernel
theorem dL_law__2603 : decode cL_law_ 2603 = .ok (.iconst 0, 1) := by decide +kernel
theorem dL_law__2604 : decode cL_law_ 2604 = .ok (.ireturn, 1) := by decide +kernel
theorem dL_law__2605 : decode cL_law_ 2605 = .ok (.aload_n 1, 1) := by decide +kernel
theorem dL_law__2606 : decode cL_law_ 2606 = .ok (.aload_n 0, 1) := by decide +kernel
theorem dL_law__2607 : decode cL_law_ 2607 = .ok (.iload 4, 2) := by decide +kernel
theorem dL_law__2609 : decode cL_law_ 2609 = .ok (.iconst 1, 1) := by decide +kernel
theorem dL_law__2610 : decode cL_law_ 2610 = .ok (.iadd, 1) := by decide +kernel
theorem dL_law__2611 : decode cL_law_ 2611 = .ok (.iaload, 1) := by decide +kernel
theorem dL_law__2612 : decode cL_law_ 2612 = .ok (.invokevirtual 258, 3) := by decide +kernel
theorem dL_law__2615 : decode cL_law_ 2615 = .ok (.aload_n 2, 1) := by decide +kernel
theorem dL_law__2616 : decode cL_law_ 2616 = .ok (.aload_n 0, 1) := by decide +kernel
theorem dL_law__2617 : decode cL_law_ 2617 = .ok (.iload 4, 2) := by decide +kernel
theorem dL_law__2619 : decode cL_law_ 2619 = .ok (.iconst 1, 1) := by decide +kernel
theorem dL_law__2620 : decode cL_law_ 2620 = .ok (.iadd, 1) := by decide +kernel
theorem dL_law__2621 : decode cL_law_ 2621 = .ok (.iaload, 1) := by decide +kernel
theorem dL_law__2622 : decode cL_law_ 2622 = .ok (.invokevirtual 261, 3) := by decide +kernel
theorem dL_law__2625 : decode cL_law_ 2625 = .ok (.if_icmp .eq 5, 3) := by decide +kernel
theorem dL_law__2628 : decode cL_law_ 2628 = .ok (.iconst 0, 1) := by decide +kernel
theorem dL_law__2629 : decode cL_law_ 2629 = .ok (.ireturn, 1) := by decide +kernel
theorem dL_law__2630 : decode cL_law_ 2630 = .ok (.iinc 4 9, 3) := by decide +kernel
theorem dL_law__2633 : decode cL_law_ 2633 = .ok (.goto (-2610), 3) := by decide +kernel
theorem dL_law__2636 : decode cL_law_ 2636 = .ok (.iconst 1, 1) := by decide +kernel
theorem dL_law__2637 : decode cL_law_ 2637 = .ok (.ireturn, 1) := by decide +kernel
