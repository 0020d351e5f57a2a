theorem ob_1500 {a0 a1 a2 : Int} (h0 : a0 ≤ (1 : Int)) (h1 : 0 ≤ a1 ∧ a1 ≤ 4) (h2 : a2 = a1 + 4 * a0 + (-1)) : 3 * a2 ≤ 2147483647 := by omega
theorem ob_1501 {a0 a1 a2 a3 : Int} (h0 : a0 = 3 * a1) (h1 : a1 = a2 + 4 * a3 + (-1)) : a0 = 3 * a2 + 12 * a3 + (-3) := by omega
theorem ob_1502 {a0 a1 : Int} (h0 : (0 : Int) ≤ a0) (h1 : (1 : Int) ≤ a1) : 0 ≤ 3 * a1 + 12 * a0 + (-3) := by omega
theorem ob_1503 {a0 a1 : Int} (h0 : a0 ≤ (1 : Int)) (h1 : 0 ≤ a1 ∧ a1 ≤ 4) : 3 * a1 + 12 * a0 + (-3) < 24 := by omega
theorem ob_1504 {a0 a1 a2 : Int} (h0 : (0 : Int) ≤ a0) (h1 : 0 ≤ a1 ∧ a1 ≤ 4) (h2 : a2 = 3 * a1 + 12 * a0 + (-3)) : (-2147483648) ≤ a2 + 1 := by omega
theorem ob_1505 {a0 a1 a2 : Int} (h0 : a0 ≤ (1 : Int)) (h1 : 0 ≤ a1 ∧ a1 ≤ 4) (h2 : a2 = 3 * a1 + 12 * a0 + (-3)) : a2 + 1 ≤ 2147483647 := by omega
theorem ob_1506 {a0 a1 a2 a3 : Int} (h0 : a0 = a1 + 1) (h1 : a1 = 3 * a2 + 12 * a3 + (-3)) : a0 = 3 * a2 + 12 * a3 + (-2) := by omega
theorem ob_1507 {a0 a1 : Int} (h0 : (0 : Int) ≤ a0) (h1 : (1 : Int) ≤ a1) : 0 ≤ 3 * a1 + 12 * a0 + (-2) := by omega
theorem ob_1508 {a0 a1 : Int} (h0 : a0 ≤ (1 : Int)) (h1 : 0 ≤ a1 ∧ a1 ≤ 4) : 3 * a1 + 12 * a0 + (-2) < 24 := by omega
theorem ob_1509 {a0 a1 a2 : Int} (h0 : (0 : Int) ≤ a0) (h1 : 0 ≤ a1 ∧ a1 ≤ 4) (h2 : a2 = 3 * a1 + 12 * a0 + (-3)) : (-2147483648) ≤ a2 + 2 := by omega
theorem ob_1510 {a0 a1 a2 : Int} (h0 : a0 ≤ (1 : Int)) (h1 : 0 ≤ a1 ∧ a1 ≤ 4) (h2 : a2 = 3 * a1 + 12 * a0 + (-3)) : a2 + 2 ≤ 2147483647 := by omega
theorem ob_1511 {a0 a1 a2 a3 : Int} (h0 : a0 = a1 + 2) (h1 : a1 = 3 * a2 + 12 * a3 + (-3)) : a0 = 3 * a2 + 12 * a3 + (-1) := by omega
theorem ob_1512 {a0 a1 : Int} (h0 : (0 : Int) ≤ a0) (h1 : (1 : Int) ≤ a1) : 0 ≤ 3 * a1 + 12 * a0 + (-1) := by omega
theorem ob_1513 {a0 a1 : Int} (h0 : a0 ≤ (1 : Int)) (h1 : 0 ≤ a1 ∧ a1 ≤ 4) : 3 * a1 + 12 * a0 + (-1) < 24 := by omega
theorem ob_1514 {a0 : Int} (h0 : -1 * a0 + 343 < 0) (h1 : (0 : Int) ≤ a0) (h2 : a0 ≤ (343 : Int)) : False := by omega
theorem ob_1515 {a0 : Int} (h0 : a0 ≤ (343 : Int)) : a0 + 1 ≤ 2147483647 := by omega
theorem ob_1516 {a0 a1 : Int} (h0 : a0 < 343) (h1 : a1 = a0 + 1) : a1 ≤ (343 : Int) := by omega
theorem ob_1517 {a0 a1 a2 : Int} (h0 : -1 * a0 + 343 < a1 + 1) (h1 : a2 = a0 + 1) : -1 * a2 + 343 < a1 := by omega
theorem ob_1518 {a0 : Int} (h0 : (0 : Int) ≤ a0) : (-2147483648) ≤ 5 * a0 := by omega
theorem ob_1519 {a0 : Int} (h0 : a0 ≤ (343 : Int)) : 5 * a0 ≤ 2147483647 := by omega
theorem ob_1520 {a0 a1 a2 : Int} (h0 : a0 ≤ (343 : Int)) (h1 : a1 ≤ (5 : Int)) (h2 : a2 = 5 * a0) : a2 + a1 ≤ 2147483647 := by omega
theorem ob_1521 {a0 a1 : Int} (h0 : 0 ≤ a0 ∧ a0 ≤ 4) (h1 : (1 : Int) ≤ a0) (h2 : a1 = a0 + (-1)) : (0 : Int) ≤ a1 := by omega
theorem ob_1522 {a0 a1 : Int} (h0 : a0 = a1 + (-1)) : a0 + 1 ≤ a1 := by omega
theorem ob_1523 {a0 a1 a2 a3 : Int} (h0 : 0 ≤ a0 ∧ a0 ≤ 5) (h1 : a1 < 343) (h2 : a3 < a2) (h3 : a2 = a0) : a3 + 5 * a1 < 1715 := by omega
theorem ob_1524 {a0 a1 a2 a3 : Int} (h0 : (0 : Int) ≤ a0) (h1 : 0 ≤ a1 ∧ a1 ≤ 4) (h2 : (0 : Int) ≤ a2) (h3 : a3 = 3 * a1 + 12 * a0 + (-3)) : (-2147483648) ≤ a3 + a2 := by omega
theorem ob_1525 {a0 a1 a2 a3 : Int} (h0 : a0 ≤ (1 : Int)) (h1 : 0 ≤ a1 ∧ a1 ≤ 4) (h2 : a2 ≤ (3 : Int)) (h3 : a3 = 3 * a1 + 12 * a0 + (-3)) : a3 + a2 ≤ 2147483647 := by omega
theorem ob_1526 {a0 a1 a2 a3 a4 : Int} (h0 : a0 = a1 + a2) (h1 : a1 = 3 * a3 + 12 * a4 + (-3)) : a0 = a2 + 3 * a3 + 12 * a4 + (-3) := by omega
theorem ob_1527 {a0 : Int} (h0 : a0 < 343) : a0 ≤ (342 : Int) := by omega
theorem ob_1528 {a0 a1 a2 : Int} (h0 : (0 : Int) ≤ a0) (h1 : (1 : Int) ≤ a1) (h2 : (0 : Int) ≤ a2) : 0 ≤ a2 + 3 * a1 + 12 * a0 + (-3) := by omega
theorem ob_1529 {a0 a1 a2 : Int} (h0 : a0 ≤ (1 : Int)) (h1 : 0 ≤ a1 ∧ a1 ≤ 4) (h2 : a2 < 3) : a2 + 3 * a1 + 12 * a0 + (-3) < 24 := by omega
theorem ob_1530 {a0 : Int} (h0 : a0 = 0) : a0 ≤ (343 : Int) := by omega
theorem ob_1531 {a0 : Int} (h0 : a0 = 0) : 0 ≤ -1 * a0 + 343 := by omega
theorem ob_1532 {a0 : Int} (h0 : -1 * a0 + 30 < 0) (h1 : (0 : Int) ≤ a0) (h2 : a0 ≤ (30 : Int)) : False := by omega
theorem ob_1533 {a0 a1 : Int} (h0 : a0 ≤ (30 : Int)) (h1 : a1 < a0) : a1 < 30 := by omega
theorem ob_1534 {a0 a1 a2 : Int} (h0 : a0 ≤ (30 : Int)) (h1 : a1 < a0) (h2 : a2 = a1 + 1) : a2 ≤ (30 : Int) := by omega
theorem ob_1535 {a0 a1 a2 : Int} (h0 : -1 * a0 + 30 < a1 + 1) (h1 : a2 = a0 + 1) : -1 * a2 + 30 < a1 := by omega
theorem ob_1536 {a0 : Int} (h0 : (0 : Int) ≤ a0) (h1 : a0 ≤ (342 : Int)) : (-2147483648) ≤ 5 * a0 := by omega
theorem ob_1537 {a0 : Int} (h0 : (0 : Int) ≤ a0) (h1 : a0 ≤ (342 : Int)) : 5 * a0 ≤ 2147483647 := by omega
theorem ob_1538 {a0 a1 a2 : Int} (h0 : (0 : Int) ≤ a0) (h1 : a0 ≤ (342 : Int)) (h2 : 0 ≤ a1 ∧ a1 ≤ 4) (h3 : a2 = 5 * a0) : (-2147483648) ≤ a2 + a1 := by omega
theorem ob_1539 {a0 a1 a2 : Int} (h0 : (0 : Int) ≤ a0) (h1 : a0 ≤ (342 : Int)) (h2 : 0 ≤ a1 ∧ a1 ≤ 4) (h3 : a2 = 5 * a0) : a2 + a1 ≤ 2147483647 := by omega
theorem ob_1540 {a0 a1 : Int} (h0 : (0 : Int) ≤ a0) (h1 : a0 ≤ (342 : Int)) (h2 : 0 ≤ a1 ∧ a1 ≤ 4) : 0 ≤ a1 + 5 * a0 := by omega
theorem ob_1541 {a0 a1 : Int} (h0 : (0 : Int) ≤ a0) (h1 : a0 ≤ (342 : Int)) (h2 : 0 ≤ a1 ∧ a1 ≤ 4) : a1 + 5 * a0 < 1715 := by omega
theorem ob_1542 {a0 : Int} (h0 : a0 = 0) : 0 ≤ -1 * a0 + 30 := by omega
theorem ob_1543 {a0 : Int} (h0 : -1 * a0 + 21 < 0) (h1 : (0 : Int) ≤ a0) (h2 : a0 ≤ (21 : Int)) : False := by omega
theorem ob_1544 {a0 : Int} (h0 : 0 ≤ a0 ∧ a0 ≤ 4) (h1 : (1 : Int) ≤ a0) : (1 : Int) ≤ a0 := by omega
theorem ob_1545 {a0 : Int} (h0 : a0 < 343) : a0 < 343 := by omega
theorem ob_1546 {a0 : Int} (h0 : (0 : Int) ≤ a0) : (-2147483648) ≤ 7 * a0 := by omega
theorem ob_1547 {a0 : Int} (h0 : a0 ≤ (3 : Int)) : 7 * a0 ≤ 2147483647 := by omega
theorem ob_1548 {a0 a1 : Int} (h0 : a0 = 7 * a1) : a0 = 7 * a1 := by omega
theorem ob_1549 {a0 a1 a2 : Int} (h0 : (0 : Int) ≤ a0) (h1 : (0 : Int) ≤ a1) (h2 : a2 = 7 * a0) : (-2147483648) ≤ a2 + a1 := by omega
theorem ob_1550 {a0 a1 a2 : Int} (h0 : a0 ≤ (3 : Int)) (h1 : a1 ≤ (6 : Int)) (h2 : a2 = 7 * a0) : a2 + a1 ≤ 2147483647 := by omega
theorem ob_1551 {a0 a1 a2 a3 : Int} (h0 : a0 = a1 + a2) (h1 : a1 = 7 * a3) : a0 = a2 + 7 * a3 := by omega
theorem ob_1552 {a0 a1 : Int} (h0 : (0 : Int) ≤ a0) (h1 : (0 : Int) ≤ a1) : 0 ≤ a1 + 7 * a0 := by omega
theorem ob_1553 {a0 a1 : Int} (h0 : a0 < 3) (h1 : a1 ≤ (6 : Int)) : a1 + 7 * a0 < 21 := by omega
theorem ob_1554 {a0 : Int} (h0 : a0 < 21) : a0 < 21 := by omega
theorem ob_1555 {a0 : Int} (h0 : a0 ≤ (21 : Int)) : a0 + 1 ≤ 2147483647 := by omega
theorem ob_1556 {a0 a1 : Int} (h0 : a0 < 21) (h1 : a1 = a0 + 1) : a1 ≤ (21 : Int) := by omega
theorem ob_1557 {a0 a1 a2 : Int} (h0 : -1 * a0 + 21 < a1 + 1) (h1 : a2 = a0 + 1) : -1 * a2 + 21 < a1 := by omega
theorem ob_1558 {a0 : Int} (h0 : a0 = 0) : a0 ≤ (21 : Int) := by omega
theorem ob_1559 {a0 : Int} (h0 : a0 = 0) : 0 ≤ -1 * a0 + 21 := by omega
theorem ob_1560 {a0 a1 a2 a3 : Int} (h0 : ((a0 + 1 ≤ a1) ∧ (a2 = (0 : Int))) ∨ ((a1 ≤ a0) ∧ (a3 + 1 ≤ a0) ∧ (a2 = (0 : Int))) ∨ ((a1 ≤ a0) ∧ (a0 ≤ a3) ∧ (a2 = (1 : Int)))) (h1 : a2 ≠ 0) (h2 : a3 = 2) (h3 : a1 = 0) : (0 : Int) ≤ a0 := by omega
theorem ob_1561 {a0 a1 a2 a3 : Int} (h0 : ((a0 + 1 ≤ a1) ∧ (a2 = (0 : Int))) ∨ ((a1 ≤ a0) ∧ (a3 + 1 ≤ a0) ∧ (a2 = (0 : Int))) ∨ ((a1 ≤ a0) ∧ (a0 ≤ a3) ∧ (a2 = (1 : Int)))) (h1 : a2 ≠ 0) (h2 : a3 = 2) (h3 : a1 = 0) : a0 ≤ (2 : Int) := by omega
theorem ob_1562 {a0 a1 a2 a3 : Int} (h0 : ((a0 + 1 ≤ a1) ∧ (a2 = (0 : Int))) ∨ ((a1 ≤ a0) ∧ (a3 + 1 ≤ a0) ∧ (a2 = (0 : Int))) ∨ ((a1 ≤ a0) ∧ (a0 ≤ a3) ∧ (a2 = (1 : Int)))) (h1 : a2 ≠ 0) (h2 : a3 = 2) (h3 : a1 = 0) : a2 = (1 : Int) := by omega
theorem ob_1563 {a0 : Int} (h0 : (0 : Int) ≤ a0) (h1 : a0 ≤ (2 : Int)) : (-2147483648) ≤ 7 * a0 := by omega
theorem ob_1564 {a0 : Int} (h0 : (0 : Int) ≤ a0) (h1 : a0 ≤ (2 : Int)) : 7 * a0 ≤ 2147483647 := by omega
theorem ob_1565 {a0 a1 a2 : Int} (h0 : a0 ≤ (2 : Int)) (h1 : a1 ≤ (7 : Int)) (h2 : a2 = 7 * a0) : a2 + a1 ≤ 2147483647 := by omega
theorem ob_1566 {a0 a1 : Int} (h0 : a0 ≤ (2 : Int)) (h1 : a1 < 7) : a1 + 7 * a0 < 21 := by omega
theorem ob_1567 {a0 a1 a2 : Int} (h0 : (0 : Int) ≤ a0) (h1 : (0 : Int) ≤ a1) (h2 : a2 = 5 * a1) : (-2147483648) ≤ a2 + a0 := by omega
theorem ob_1568 {a0 a1 a2 : Int} (h0 : a0 ≤ (4 : Int)) (h1 : a1 ≤ (343 : Int)) (h2 : a2 = 5 * a1) : a2 + a0 ≤ 2147483647 := by omega
theorem ob_1569 {a0 a1 : Int} (h0 : (0 : Int) ≤ a0) (h1 : (0 : Int) ≤ a1) : 0 ≤ a0 + 5 * a1 := by omega
theorem ob_1570 {a0 a1 : Int} (h0 : a0 ≤ (4 : Int)) (h1 : a1 < 343) : a0 + 5 * a1 < 1715 := by omega
theorem ob_1571 {a0 : Int} (h0 : a0 ≤ (343 : Int)) : a0 ≤ (343 : Int) := by omega
theorem ob_1572 {a0 : Int} (h0 : a0 ≤ (343 : Int)) : 0 ≤ -1 * a0 + 343 := by omega
theorem ob_1573 {a0 a1 : Int} (h0 : 0 ≤ a0 ∧ a0 ≤ 5) (h1 : a1 ≠ 0) (h2 : a1 = a0) : (1 : Int) ≤ a0 := by omega
theorem ob_1574 {a0 : Int} (h0 : -1 * a0 + 5 < 0) (h1 : (1 : Int) ≤ a0) (h2 : a0 ≤ (5 : Int)) : False := by omega
theorem ob_1575 {a0 a1 : Int} (h0 : (0 : Int) ≤ a0) (h1 : a0 < a1) : (0 : Int) ≤ a0 := by omega
theorem ob_1576 {a0 a1 : Int} (h0 : (0 : Int) ≤ a0) (h1 : a0 ≤ (4 : Int)) (h2 : a0 + 1 ≤ a1) : (0 : Int) ≤ a0 := by omega
theorem ob_1577 {a0 a1 : Int} (h0 : (0 : Int) ≤ a0) (h1 : a0 ≤ (4 : Int)) (h2 : a0 + 1 ≤ a1) : a0 ≤ (4 : Int) := by omega
theorem ob_1578 {a0 : Int} (h0 : a0 = 1) : a0 ≤ (5 : Int) := by omega
theorem ob_1579 {a0 a1 : Int} (h0 : 0 ≤ a0 ∧ a0 ≤ 5) (h1 : (1 : Int) ≤ a0) (h2 : a1 = 0) : a1 + 1 ≤ a0 := by omega
theorem ob_1580 {a0 : Int} (h0 : a0 = 1) : 0 ≤ -1 * a0 + 5 := by omega
theorem ob_1581 {a0 : Int} (h0 : (0 : Int) ≤ a0) (h1 : a0 ≤ (2 : Int)) : 0 ≤ a0 := by omega
theorem ob_1582 {a0 : Int} (h0 : (0 : Int) ≤ a0) (h1 : a0 ≤ (2 : Int)) : a0 < 3 := by omega
theorem ob_1583 {a0 : Int} (h0 : (0 : Int) ≤ a0) (h1 : a0 ≤ (2 : Int)) : (-2147483648) ≤ 26 * a0 := by omega
theorem ob_1584 {a0 : Int} (h0 : (0 : Int) ≤ a0) (h1 : a0 ≤ (2 : Int)) : 26 * a0 ≤ 2147483647 := by omega
theorem ob_1585 {a0 a1 a2 : Int} (h0 : a0 ≤ (2 : Int)) (h1 : a1 ≤ (26 : Int)) (h2 : a2 = 26 * a0) : a2 + a1 ≤ 2147483647 := by omega
theorem ob_1586 {a0 a1 : Int} (h0 : a0 ≤ (2 : Int)) (h1 : a1 < 26) : a1 + 26 * a0 < 78 := by omega
theorem ob_1587 {a0 : Int} (h0 : (0 : Int) ≤ a0) (h1 : a0 ≤ (1600 : Int)) : (-2147483648) ≤ a0 + 20 := by omega
theorem ob_1588 {a0 : Int} (h0 : (0 : Int) ≤ a0) (h1 : a0 ≤ (1600 : Int)) : a0 + 20 ≤ 2147483647 := by omega
theorem ob_1589 {a0 a1 : Int} (h0 : a0 = a1 + 20) : a0 = a1 + 20 := by omega
theorem ob_1590 {a0 : Int} (h0 : -1 * a0 + 20 < 0) (h1 : (0 : Int) ≤ a0) (h2 : a0 ≤ (20 : Int)) : False := by omega
theorem ob_1591 {a0 a1 : Int} (h0 : (0 : Int) ≤ a0) (h1 : a0 ≤ (1600 : Int)) (h2 : a1 ≤ 1600) (h3 : a1 = a0 + 20) : (-2147483648) ≤ a0 + 20 := by omega
theorem ob_1592 {a0 a1 : Int} (h0 : (0 : Int) ≤ a0) (h1 : a0 ≤ (1600 : Int)) (h2 : a1 ≤ 1600) (h3 : a1 = a0 + 20) : a0 + 20 ≤ 2147483647 := by omega
theorem ob_1593 {a0 a1 a2 : Int} (h0 : (0 : Int) ≤ a0) (h1 : a0 ≤ (1600 : Int)) (h2 : a1 ≤ 1600) (h3 : a1 = a0 + 20) (h4 : a2 = a0 + 20) : (0 : Int) ≤ a2 := by omega
theorem ob_1594 {a0 a1 a2 : Int} (h0 : (0 : Int) ≤ a0) (h1 : a0 ≤ (1600 : Int)) (h2 : a1 ≤ 1600) (h3 : a1 = a0 + 20) (h4 : a2 = a0 + 20) : a2 ≤ (1600 : Int) := by omega
theorem ob_1595 {a0 a1 : Int} (h0 : a0 ≤ (1600 : Int)) (h1 : a1 ≤ (20 : Int)) : a0 + a1 ≤ 2147483647 := by omega
theorem ob_1596 {a0 a1 a2 : Int} (h0 : a0 ≤ 1600) (h1 : a1 ≤ (20 : Int)) (h2 : a0 = a2 + 20) : a2 + a1 < 1620 := by omega
theorem ob_1597 {a0 : Int} (h0 : a0 ≤ (20 : Int)) : a0 + 1 ≤ 2147483647 := by omega
theorem ob_1598 {a0 a1 : Int} (h0 : a0 < 20) (h1 : a1 = a0 + 1) : a1 ≤ (20 : Int) := by omega
theorem ob_1599 {a0 a1 a2 : Int} (h0 : -1 * a0 + 20 < a1 + 1) (h1 : a2 = a0 + 1) : -1 * a2 + 20 < a1 := by omega
theorem ob_1600 {a0 : Int} (h0 : a0 = 0) : a0 ≤ (20 : Int) := by omega
theorem ob_1601 {a0 : Int} (h0 : a0 = 0) : 0 ≤ -1 * a0 + 20 := by omega
theorem ob_1602 {a0 a1 : Int} (h0 : 0 ≤ a0) (h1 : a0 ≤ a1) : (0 : Int) ≤ a0 := by omega
