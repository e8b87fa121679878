theorem bw_1431 : Cond.classLink RL 7 RX11 ∈ gT := gT_tb 23 (by decide +kernel) (by decide +kernel)
theorem bw_1432 : Cond.initialized yX11_init.cls ∈ gT := gT_tb 1 (by decide +kernel) (by decide +kernel)
theorem bw_1433 : Cond.methodLink RL 9 yX11_init ∈ gT := gT_tb 25 (by decide +kernel) (by decide +kernel)
theorem bw_1434 : Cond.instanceMethod yX11_init ∈ gT := gT_tb 26 (by decide +kernel) (by decide +kernel)
theorem bw_1435 : Cond.classLink RL 10 RX12 ∈ gT := gT_tb 1287 (by decide +kernel) (by decide +kernel)
theorem bw_1436 : Cond.initialized yX12_init.cls ∈ gT := gT_tb 19 (by decide +kernel) (by decide +kernel)
theorem bw_1437 : Cond.methodLink RL 12 yX12_init ∈ gT := gT_tb 1289 (by decide +kernel) (by decide +kernel)
theorem bw_1438 : Cond.instanceMethod yX12_init ∈ gT := gT_tb 1290 (by decide +kernel) (by decide +kernel)
theorem bw_1439 : Cond.methodLink RL 13 yX11_feed ∈ gT := gT_tb 564 (by decide +kernel) (by decide +kernel)
theorem bw_1440 : Cond.instanceMethod yX11_feed ∈ gT := gT_tb 565 (by decide +kernel) (by decide +kernel)
theorem bw_1441 : Cond.selects RX11 yX11_feed yX11_feed ∈ gT := gT_tb 566 (by decide +kernel) (by decide +kernel)
theorem bw_1442 : Cond.methodLink RL 17 yX12_feed ∈ gT := gT_tb 2065 (by decide +kernel) (by decide +kernel)
theorem bw_1443 : Cond.instanceMethod yX12_feed ∈ gT := gT_tb 2066 (by decide +kernel) (by decide +kernel)
theorem bw_1444 : Cond.selects RX12 yX12_feed yX12_feed ∈ gT := gT_tb 2067 (by decide +kernel) (by decide +kernel)
theorem bw_1445 : Cond.methodLink RL 18 yX11_end ∈ gT := gT_tb 572 (by decide +kernel) (by decide +kernel)
theorem bw_1446 : Cond.instanceMethod yX11_end ∈ gT := gT_tb 573 (by decide +kernel) (by decide +kernel)
theorem bw_1447 : Cond.selects RX11 yX11_end yX11_end ∈ gT := gT_tb 574 (by decide +kernel) (by decide +kernel)
theorem bw_1448 : Cond.methodLink RL 22 yX12_end ∈ gT := gT_tb 2069 (by decide +kernel) (by decide +kernel)
theorem bw_1449 : Cond.instanceMethod yX12_end ∈ gT := gT_tb 2070 (by decide +kernel) (by decide +kernel)
theorem bw_1450 : Cond.selects RX12 yX12_end yX12_end ∈ gT := gT_tb 2071 (by decide +kernel) (by decide +kernel)
theorem bw_1451 : Cond.methodLink RL 23 yX11_code ∈ gT := gT_tb 576 (by decide +kernel) (by decide +kernel)
theorem bw_1452 : Cond.instanceMethod yX11_code ∈ gT := gT_tb 577 (by decide +kernel) (by decide +kernel)
theorem bw_1453 : Cond.selects RX11 yX11_code yX11_code ∈ gT := gT_tb 578 (by decide +kernel) (by decide +kernel)
theorem bw_1454 : Cond.methodLink RL 27 yX12_code ∈ gT := gT_tb 1567 (by decide +kernel) (by decide +kernel)
theorem bw_1455 : Cond.instanceMethod yX12_code ∈ gT := gT_tb 1568 (by decide +kernel) (by decide +kernel)
theorem bw_1456 : Cond.selects RX12 yX12_code yX12_code ∈ gT := gT_tb 1569 (by decide +kernel) (by decide +kernel)
theorem bw_1457 : Cond.methodLink RL 28 yX11_fault ∈ gT := gT_tb 835 (by decide +kernel) (by decide +kernel)
theorem bw_1458 : Cond.instanceMethod yX11_fault ∈ gT := gT_tb 836 (by decide +kernel) (by decide +kernel)
theorem bw_1459 : Cond.selects RX11 yX11_fault yX11_fault ∈ gT := gT_tb 837 (by decide +kernel) (by decide +kernel)
theorem bw_1460 : Cond.methodLink RL 31 yX12_fault ∈ gT := gT_tb 1735 (by decide +kernel) (by decide +kernel)
theorem bw_1461 : Cond.instanceMethod yX12_fault ∈ gT := gT_tb 1736 (by decide +kernel) (by decide +kernel)
theorem bw_1462 : Cond.selects RX12 yX12_fault yX12_fault ∈ gT := gT_tb 1737 (by decide +kernel) (by decide +kernel)
theorem bw_1463 : Cond.methodLink RL 32 yX11_man ∈ gT := gT_tb 839 (by decide +kernel) (by decide +kernel)
theorem bw_1464 : Cond.instanceMethod yX11_man ∈ gT := gT_tb 840 (by decide +kernel) (by decide +kernel)
theorem bw_1465 : Cond.selects RX11 yX11_man yX11_man ∈ gT := gT_tb 841 (by decide +kernel) (by decide +kernel)
theorem bw_1466 : Cond.methodLink RL 36 yX12_man ∈ gT := gT_tb 1739 (by decide +kernel) (by decide +kernel)
theorem bw_1467 : Cond.instanceMethod yX12_man ∈ gT := gT_tb 1740 (by decide +kernel) (by decide +kernel)
theorem bw_1468 : Cond.selects RX12 yX12_man yX12_man ∈ gT := gT_tb 1741 (by decide +kernel) (by decide +kernel)
theorem bw_1469 : Cond.methodLink RL 37 yX11_duel ∈ gT := gT_tb 851 (by decide +kernel) (by decide +kernel)
theorem bw_1470 : Cond.instanceMethod yX11_duel ∈ gT := gT_tb 852 (by decide +kernel) (by decide +kernel)
theorem bw_1471 : Cond.selects RX11 yX11_duel yX11_duel ∈ gT := gT_tb 853 (by decide +kernel) (by decide +kernel)
theorem bw_1472 : Cond.methodLink RL 40 yX12_duel ∈ gT := gT_tb 1758 (by decide +kernel) (by decide +kernel)
theorem bw_1473 : Cond.instanceMethod yX12_duel ∈ gT := gT_tb 1759 (by decide +kernel) (by decide +kernel)
theorem bw_1474 : Cond.selects RX12 yX12_duel yX12_duel ∈ gT := gT_tb 1760 (by decide +kernel) (by decide +kernel)
theorem bw_1475 : Cond.methodLink RL 41 yX11_reason ∈ gT := gT_tb 873 (by decide +kernel) (by decide +kernel)
theorem bw_1476 : Cond.instanceMethod yX11_reason ∈ gT := gT_tb 874 (by decide +kernel) (by decide +kernel)
theorem bw_1477 : Cond.selects RX11 yX11_reason yX11_reason ∈ gT := gT_tb 875 (by decide +kernel) (by decide +kernel)
theorem bw_1478 : Cond.methodLink RL 44 yX12_reason ∈ gT := gT_tb 1773 (by decide +kernel) (by decide +kernel)
theorem bw_1479 : Cond.instanceMethod yX12_reason ∈ gT := gT_tb 1774 (by decide +kernel) (by decide +kernel)
theorem bw_1480 : Cond.selects RX12 yX12_reason yX12_reason ∈ gT := gT_tb 1775 (by decide +kernel) (by decide +kernel)
theorem bw_1481 : Cond.methodLink RL 45 yX11_worth ∈ gT := gT_tb 896 (by decide +kernel) (by decide +kernel)
theorem bw_1482 : Cond.instanceMethod yX11_worth ∈ gT := gT_tb 897 (by decide +kernel) (by decide +kernel)
theorem bw_1483 : Cond.selects RX11 yX11_worth yX11_worth ∈ gT := gT_tb 898 (by decide +kernel) (by decide +kernel)
theorem bw_1484 : Cond.methodLink RL 49 yX12_worth ∈ gT := gT_tb 1785 (by decide +kernel) (by decide +kernel)
theorem bw_1485 : Cond.instanceMethod yX12_worth ∈ gT := gT_tb 1786 (by decide +kernel) (by decide +kernel)
theorem bw_1486 : Cond.selects RX12 yX12_worth yX12_worth ∈ gT := gT_tb 1787 (by decide +kernel) (by decide +kernel)
theorem bw_1487 : Cond.methodLink RL 50 yX11_may ∈ gT := gT_tb 917 (by decide +kernel) (by decide +kernel)
theorem bw_1488 : Cond.instanceMethod yX11_may ∈ gT := gT_tb 918 (by decide +kernel) (by decide +kernel)
theorem bw_1489 : Cond.selects RX11 yX11_may yX11_may ∈ gT := gT_tb 919 (by decide +kernel) (by decide +kernel)
theorem bw_1490 : Cond.methodLink RL 53 yX12_may ∈ gT := gT_tb 1804 (by decide +kernel) (by decide +kernel)
theorem bw_1491 : Cond.methodLink RL 54 yX11_next ∈ gT := gT_tb 953 (by decide +kernel) (by decide +kernel)
theorem bw_1492 : Cond.instanceMethod yX11_next ∈ gT := gT_tb 954 (by decide +kernel) (by decide +kernel)
theorem bw_1493 : Cond.selects RX11 yX11_next yX11_next ∈ gT := gT_tb 955 (by decide +kernel) (by decide +kernel)
theorem bw_1494 : Cond.methodLink RL 57 yX12_next ∈ gT := gT_tb 2003 (by decide +kernel) (by decide +kernel)
theorem bw_1495 : Cond.instanceMethod yX12_next ∈ gT := gT_tb 2004 (by decide +kernel) (by decide +kernel)
theorem bw_1496 : Cond.selects RX12 yX12_next yX12_next ∈ gT := gT_tb 2005 (by decide +kernel) (by decide +kernel)
theorem bw_1497 : Cond.methodLink RL 58 yX11_heir ∈ gT := gT_tb 961 (by decide +kernel) (by decide +kernel)
theorem bw_1498 : Cond.instanceMethod yX11_heir ∈ gT := gT_tb 962 (by decide +kernel) (by decide +kernel)
theorem bw_1499 : Cond.selects RX11 yX11_heir yX11_heir ∈ gT := gT_tb 963 (by decide +kernel) (by decide +kernel)
theorem bw_1500 : Cond.methodLink RL 61 yX12_heir ∈ gT := gT_tb 2007 (by decide +kernel) (by decide +kernel)
theorem bw_1501 : Cond.instanceMethod yX12_heir ∈ gT := gT_tb 2008 (by decide +kernel) (by decide +kernel)
theorem bw_1502 : Cond.selects RX12 yX12_heir yX12_heir ∈ gT := gT_tb 2009 (by decide +kernel) (by decide +kernel)
theorem bw_1503 : Cond.methodLink RL 62 yX11_his ∈ gT := gT_tb 969 (by decide +kernel) (by decide +kernel)
theorem bw_1504 : Cond.instanceMethod yX11_his ∈ gT := gT_tb 970 (by decide +kernel) (by decide +kernel)
theorem bw_1505 : Cond.selects RX11 yX11_his yX11_his ∈ gT := gT_tb 971 (by decide +kernel) (by decide +kernel)
theorem bw_1506 : Cond.methodLink RL 65 yX12_his ∈ gT := gT_tb 2011 (by decide +kernel) (by decide +kernel)
theorem bw_1507 : Cond.instanceMethod yX12_his ∈ gT := gT_tb 2012 (by decide +kernel) (by decide +kernel)
theorem bw_1508 : Cond.selects RX12 yX12_his yX12_his ∈ gT := gT_tb 2013 (by decide +kernel) (by decide +kernel)
theorem bw_1509 : Cond.methodLink RL 66 yX11_comes ∈ gT := gT_tb 977 (by decide +kernel) (by decide +kernel)
theorem bw_1510 : Cond.instanceMethod yX11_comes ∈ gT := gT_tb 978 (by decide +kernel) (by decide +kernel)
theorem bw_1511 : Cond.selects RX11 yX11_comes yX11_comes ∈ gT := gT_tb 979 (by decide +kernel) (by decide +kernel)
theorem bw_1512 : Cond.methodLink RL 69 yX12_comes ∈ gT := gT_tb 2016 (by decide +kernel) (by decide +kernel)
theorem bw_1513 : Cond.instanceMethod yX12_comes ∈ gT := gT_tb 2017 (by decide +kernel) (by decide +kernel)
theorem bw_1514 : Cond.selects RX12 yX12_comes yX12_comes ∈ gT := gT_tb 2018 (by decide +kernel) (by decide +kernel)
theorem bw_1515 : Cond.methodLink RL 70 yX11_put ∈ gT := gT_tb 981 (by decide +kernel) (by decide +kernel)
theorem bw_1516 : Cond.instanceMethod yX11_put ∈ gT := gT_tb 982 (by decide +kernel) (by decide +kernel)
theorem bw_1517 : Cond.selects RX11 yX11_put yX11_put ∈ gT := gT_tb 983 (by decide +kernel) (by decide +kernel)
theorem bw_1518 : Cond.methodLink RL 73 yX12_put ∈ gT := gT_tb 1839 (by decide +kernel) (by decide +kernel)
theorem bw_1519 : Cond.instanceMethod yX12_put ∈ gT := gT_tb 1840 (by decide +kernel) (by decide +kernel)
theorem bw_1520 : Cond.selects RX12 yX12_put yX12_put ∈ gT := gT_tb 1841 (by decide +kernel) (by decide +kernel)
theorem bw_1521 : Cond.methodLink RL 74 yX11_rent ∈ gT := gT_tb 1008 (by decide +kernel) (by decide +kernel)
theorem bw_1522 : Cond.instanceMethod yX11_rent ∈ gT := gT_tb 1009 (by decide +kernel) (by decide +kernel)
theorem bw_1523 : Cond.selects RX11 yX11_rent yX11_rent ∈ gT := gT_tb 1010 (by decide +kernel) (by decide +kernel)
theorem bw_1524 : Cond.methodLink RL 77 yX12_rent ∈ gT := gT_tb 1850 (by decide +kernel) (by decide +kernel)
theorem bw_1525 : Cond.instanceMethod yX12_rent ∈ gT := gT_tb 1851 (by decide +kernel) (by decide +kernel)
theorem bw_1526 : Cond.selects RX12 yX12_rent yX12_rent ∈ gT := gT_tb 1852 (by decide +kernel) (by decide +kernel)
theorem bw_1527 : Cond.methodLink RL 78 yX11_strike ∈ gT := gT_tb 1013 (by decide +kernel) (by decide +kernel)
theorem bw_1528 : Cond.instanceMethod yX11_strike ∈ gT := gT_tb 1014 (by decide +kernel) (by decide +kernel)
theorem bw_1529 : Cond.selects RX11 yX11_strike yX11_strike ∈ gT := gT_tb 1015 (by decide +kernel) (by decide +kernel)
theorem bw_1530 : Cond.methodLink RL 82 yX12_strike ∈ gT := gT_tb 1854 (by decide +kernel) (by decide +kernel)
theorem bw_1531 : Cond.instanceMethod yX12_strike ∈ gT := gT_tb 1855 (by decide +kernel) (by decide +kernel)
theorem bw_1532 : Cond.selects RX12 yX12_strike yX12_strike ∈ gT := gT_tb 1856 (by decide +kernel) (by decide +kernel)
theorem bw_1533 : Cond.methodLink RL 83 yX11_insult ∈ gT := gT_tb 1017 (by decide +kernel) (by decide +kernel)
theorem bw_1534 : Cond.instanceMethod yX11_insult ∈ gT := gT_tb 1018 (by decide +kernel) (by decide +kernel)
theorem bw_1535 : Cond.selects RX11 yX11_insult yX11_insult ∈ gT := gT_tb 1019 (by decide +kernel) (by decide +kernel)
theorem bw_1536 : Cond.methodLink RL 86 yX12_insult ∈ gT := gT_tb 1858 (by decide +kernel) (by decide +kernel)
theorem bw_1537 : Cond.instanceMethod yX12_insult ∈ gT := gT_tb 1859 (by decide +kernel) (by decide +kernel)
theorem bw_1538 : Cond.selects RX12 yX12_insult yX12_insult ∈ gT := gT_tb 1860 (by decide +kernel) (by decide +kernel)
theorem bw_1539 : Cond.methodLink RL 87 yX11_days ∈ gT := gT_tb 1027 (by decide +kernel) (by decide +kernel)
theorem bw_1540 : Cond.instanceMethod yX11_days ∈ gT := gT_tb 1028 (by decide +kernel) (by decide +kernel)
theorem bw_1541 : Cond.selects RX11 yX11_days yX11_days ∈ gT := gT_tb 1029 (by decide +kernel) (by decide +kernel)
theorem bw_1542 : Cond.methodLink RL 90 yX12_days ∈ gT := gT_tb 1870 (by decide +kernel) (by decide +kernel)
theorem bw_1543 : Cond.instanceMethod yX12_days ∈ gT := gT_tb 1871 (by decide +kernel) (by decide +kernel)
theorem bw_1544 : Cond.selects RX12 yX12_days yX12_days ∈ gT := gT_tb 1872 (by decide +kernel) (by decide +kernel)
theorem bw_1545 : Cond.methodLink RL 91 yX11_undo ∈ gT := gT_tb 1045 (by decide +kernel) (by decide +kernel)
theorem bw_1546 : Cond.instanceMethod yX11_undo ∈ gT := gT_tb 1046 (by decide +kernel) (by decide +kernel)
theorem bw_1547 : Cond.selects RX11 yX11_undo yX11_undo ∈ gT := gT_tb 1047 (by decide +kernel) (by decide +kernel)
theorem bw_1548 : Cond.methodLink RL 95 yX12_undo ∈ gT := gT_tb 1890 (by decide +kernel) (by decide +kernel)
theorem bw_1549 : Cond.instanceMethod yX12_undo ∈ gT := gT_tb 1891 (by decide +kernel) (by decide +kernel)
theorem bw_1550 : Cond.selects RX12 yX12_undo yX12_undo ∈ gT := gT_tb 1892 (by decide +kernel) (by decide +kernel)
theorem bw_1551 : Cond.methodLink RL 96 yX11_redo ∈ gT := gT_tb 1049 (by decide +kernel) (by decide +kernel)
theorem bw_1552 : Cond.instanceMethod yX11_redo ∈ gT := gT_tb 1050 (by decide +kernel) (by decide +kernel)
theorem bw_1553 : Cond.selects RX11 yX11_redo yX11_redo ∈ gT := gT_tb 1051 (by decide +kernel) (by decide +kernel)
theorem bw_1554 : Cond.methodLink RL 99 yX12_redo ∈ gT := gT_tb 1898 (by decide +kernel) (by decide +kernel)
theorem bw_1555 : Cond.instanceMethod yX12_redo ∈ gT := gT_tb 1899 (by decide +kernel) (by decide +kernel)
theorem bw_1556 : Cond.selects RX12 yX12_redo yX12_redo ∈ gT := gT_tb 1900 (by decide +kernel) (by decide +kernel)
theorem bw_1557 : Cond.methodLink RL 100 yX11_life ∈ gT := gT_tb 1053 (by decide +kernel) (by decide +kernel)
theorem bw_1558 : Cond.instanceMethod yX11_life ∈ gT := gT_tb 1054 (by decide +kernel) (by decide +kernel)
theorem bw_1559 : Cond.selects RX11 yX11_life yX11_life ∈ gT := gT_tb 1055 (by decide +kernel) (by decide +kernel)
theorem bw_1560 : Cond.methodLink RL 103 yX12_life ∈ gT := gT_tb 1906 (by decide +kernel) (by decide +kernel)
theorem bw_1561 : Cond.instanceMethod yX12_life ∈ gT := gT_tb 1907 (by decide +kernel) (by decide +kernel)
theorem bw_1562 : Cond.selects RX12 yX12_life yX12_life ∈ gT := gT_tb 1908 (by decide +kernel) (by decide +kernel)
theorem bw_1563 : Cond.methodLink RL 104 yX11_late ∈ gT := gT_tb 1129 (by decide +kernel) (by decide +kernel)
theorem bw_1564 : Cond.instanceMethod yX11_late ∈ gT := gT_tb 1130 (by decide +kernel) (by decide +kernel)
theorem bw_1565 : Cond.selects RX11 yX11_late yX11_late ∈ gT := gT_tb 1131 (by decide +kernel) (by decide +kernel)
theorem bw_1566 : Cond.methodLink RL 107 yX12_late ∈ gT := gT_tb 1946 (by decide +kernel) (by decide +kernel)
theorem bw_1567 : Cond.instanceMethod yX12_late ∈ gT := gT_tb 1947 (by decide +kernel) (by decide +kernel)
theorem bw_1568 : Cond.selects RX12 yX12_late yX12_late ∈ gT := gT_tb 1948 (by decide +kernel) (by decide +kernel)
theorem bw_1569 : Cond.methodLink RL 108 yX11_last ∈ gT := gT_tb 1138 (by decide +kernel) (by decide +kernel)
theorem bw_1570 : Cond.instanceMethod yX11_last ∈ gT := gT_tb 1139 (by decide +kernel) (by decide +kernel)
theorem bw_1571 : Cond.selects RX11 yX11_last yX11_last ∈ gT := gT_tb 1140 (by decide +kernel) (by decide +kernel)
theorem bw_1572 : Cond.methodLink RL 111 yX12_last ∈ gT := gT_tb 1950 (by decide +kernel) (by decide +kernel)
theorem bw_1573 : Cond.instanceMethod yX12_last ∈ gT := gT_tb 1951 (by decide +kernel) (by decide +kernel)
theorem bw_1574 : Cond.selects RX12 yX12_last yX12_last ∈ gT := gT_tb 1952 (by decide +kernel) (by decide +kernel)
theorem bw_1575 : Cond.methodLink RL 112 yX11_shun ∈ gT := gT_tb 1151 (by decide +kernel) (by decide +kernel)
theorem bw_1576 : Cond.instanceMethod yX11_shun ∈ gT := gT_tb 1152 (by decide +kernel) (by decide +kernel)
theorem bw_1577 : Cond.selects RX11 yX11_shun yX11_shun ∈ gT := gT_tb 1153 (by decide +kernel) (by decide +kernel)
theorem bw_1578 : Cond.methodLink RL 115 yX12_shun ∈ gT := gT_tb 1958 (by decide +kernel) (by decide +kernel)
theorem bw_1579 : Cond.instanceMethod yX12_shun ∈ gT := gT_tb 1959 (by decide +kernel) (by decide +kernel)
theorem bw_1580 : Cond.selects RX12 yX12_shun yX12_shun ∈ gT := gT_tb 1960 (by decide +kernel) (by decide +kernel)
theorem bw_1581 : Cond.methodLink RL 116 yX11_hire ∈ gT := gT_tb 1157 (by decide +kernel) (by decide +kernel)
theorem bw_1582 : Cond.instanceMethod yX11_hire ∈ gT := gT_tb 1158 (by decide +kernel) (by decide +kernel)
theorem bw_1583 : Cond.selects RX11 yX11_hire yX11_hire ∈ gT := gT_tb 1159 (by decide +kernel) (by decide +kernel)
theorem bw_1584 : Cond.methodLink RL 119 yX12_hire ∈ gT := gT_tb 1962 (by decide +kernel) (by decide +kernel)
theorem bw_1585 : Cond.instanceMethod yX12_hire ∈ gT := gT_tb 1963 (by decide +kernel) (by decide +kernel)
theorem bw_1586 : Cond.selects RX12 yX12_hire yX12_hire ∈ gT := gT_tb 1964 (by decide +kernel) (by decide +kernel)
theorem bw_1587 : Cond.methodLink RL 120 yX11_clash ∈ gT := gT_tb 1170 (by decide +kernel) (by decide +kernel)
theorem bw_1588 : Cond.instanceMethod yX11_clash ∈ gT := gT_tb 1171 (by decide +kernel) (by decide +kernel)
theorem bw_1589 : Cond.selects RX11 yX11_clash yX11_clash ∈ gT := gT_tb 1172 (by decide +kernel) (by decide +kernel)
theorem bw_1590 : Cond.methodLink RL 123 yX12_clash ∈ gT := gT_tb 1974 (by decide +kernel) (by decide +kernel)
theorem bw_1591 : Cond.methodLink RL 124 yX11_part ∈ gT := gT_tb 1182 (by decide +kernel) (by decide +kernel)
theorem bw_1592 : Cond.instanceMethod yX11_part ∈ gT := gT_tb 1183 (by decide +kernel) (by decide +kernel)
theorem bw_1593 : Cond.selects RX11 yX11_part yX11_part ∈ gT := gT_tb 1184 (by decide +kernel) (by decide +kernel)
theorem bw_1594 : Cond.methodLink RL 127 yX12_part ∈ gT := gT_tb 1982 (by decide +kernel) (by decide +kernel)
theorem bw_1595 : Cond.instanceMethod yX12_part ∈ gT := gT_tb 1983 (by decide +kernel) (by decide +kernel)
theorem bw_1596 : Cond.selects RX12 yX12_part yX12_part ∈ gT := gT_tb 1984 (by decide +kernel) (by decide +kernel)
theorem bw_1597 : Cond.methodLink RL 128 yX11_lies ∈ gT := gT_tb 1230 (by decide +kernel) (by decide +kernel)
theorem bw_1598 : Cond.instanceMethod yX11_lies ∈ gT := gT_tb 1231 (by decide +kernel) (by decide +kernel)
theorem bw_1599 : Cond.selects RX11 yX11_lies yX11_lies ∈ gT := gT_tb 1232 (by decide +kernel) (by decide +kernel)
theorem bw_1600 : Cond.methodLink RL 131 yX12_lies ∈ gT := gT_tb 1902 (by decide +kernel) (by decide +kernel)
theorem bw_1601 : Cond.instanceMethod yX12_lies ∈ gT := gT_tb 1903 (by decide +kernel) (by decide +kernel)
theorem bw_1602 : Cond.selects RX12 yX12_lies yX12_lies ∈ gT := gT_tb 1904 (by decide +kernel) (by decide +kernel)
theorem bw_1603 : Cond.methodLink RL 132 yX11_log ∈ gT := gT_tb 1234 (by decide +kernel) (by decide +kernel)
theorem bw_1604 : Cond.instanceMethod yX11_log ∈ gT := gT_tb 1235 (by decide +kernel) (by decide +kernel)
theorem bw_1605 : Cond.selects RX11 yX11_log yX11_log ∈ gT := gT_tb 1236 (by decide +kernel) (by decide +kernel)
theorem bw_1606 : Cond.methodLink RL 135 yX12_log ∈ gT := gT_tb 2020 (by decide +kernel) (by decide +kernel)
theorem bw_1607 : Cond.instanceMethod yX12_log ∈ gT := gT_tb 2021 (by decide +kernel) (by decide +kernel)
theorem bw_1608 : Cond.selects RX12 yX12_log yX12_log ∈ gT := gT_tb 2022 (by decide +kernel) (by decide +kernel)
theorem bw_1609 : Cond.methodLink RL 136 yX11_began ∈ gT := gT_tb 1242 (by decide +kernel) (by decide +kernel)
theorem bw_1610 : Cond.instanceMethod yX11_began ∈ gT := gT_tb 1243 (by decide +kernel) (by decide +kernel)
theorem bw_1611 : Cond.selects RX11 yX11_began yX11_began ∈ gT := gT_tb 1244 (by decide +kernel) (by decide +kernel)
theorem bw_1612 : Cond.methodLink RL 139 yX12_began ∈ gT := gT_tb 2024 (by decide +kernel) (by decide +kernel)
theorem bw_1613 : Cond.instanceMethod yX12_began ∈ gT := gT_tb 2025 (by decide +kernel) (by decide +kernel)
theorem bw_1614 : Cond.selects RX12 yX12_began yX12_began ∈ gT := gT_tb 2026 (by decide +kernel) (by decide +kernel)
theorem bw_1615 : Cond.methodLink RL 140 yX11_sight ∈ gT := gT_tb 1246 (by decide +kernel) (by decide +kernel)
theorem bw_1616 : Cond.instanceMethod yX11_sight ∈ gT := gT_tb 1247 (by decide +kernel) (by decide +kernel)
theorem bw_1617 : Cond.selects RX11 yX11_sight yX11_sight ∈ gT := gT_tb 1248 (by decide +kernel) (by decide +kernel)
theorem bw_1618 : Cond.methodLink RL 143 yX12_sight ∈ gT := gT_tb 2028 (by decide +kernel) (by decide +kernel)
theorem bw_1619 : Cond.instanceMethod yX12_sight ∈ gT := gT_tb 2029 (by decide +kernel) (by decide +kernel)
theorem bw_1620 : Cond.selects RX12 yX12_sight yX12_sight ∈ gT := gT_tb 2030 (by decide +kernel) (by decide +kernel)
theorem bw_1621 : Cond.methodLink RL 144 yX11_untell ∈ gT := gT_tb 1254 (by decide +kernel) (by decide +kernel)
theorem bw_1622 : Cond.instanceMethod yX11_untell ∈ gT := gT_tb 1255 (by decide +kernel) (by decide +kernel)
theorem bw_1623 : Cond.selects RX11 yX11_untell yX11_untell ∈ gT := gT_tb 1256 (by decide +kernel) (by decide +kernel)
theorem bw_1624 : Cond.methodLink RL 147 yX12_untell ∈ gT := gT_tb 2032 (by decide +kernel) (by decide +kernel)
theorem bw_1625 : Cond.instanceMethod yX12_untell ∈ gT := gT_tb 2033 (by decide +kernel) (by decide +kernel)
theorem bw_1626 : Cond.selects RX12 yX12_untell yX12_untell ∈ gT := gT_tb 2034 (by decide +kernel) (by decide +kernel)
theorem bw_1627 : Cond.methodLink RL 148 yX11_later ∈ gT := gT_tb 1262 (by decide +kernel) (by decide +kernel)
theorem bw_1628 : Cond.instanceMethod yX11_later ∈ gT := gT_tb 1263 (by decide +kernel) (by decide +kernel)
theorem bw_1629 : Cond.selects RX11 yX11_later yX11_later ∈ gT := gT_tb 1264 (by decide +kernel) (by decide +kernel)
theorem bw_1630 : Cond.methodLink RL 151 yX12_later ∈ gT := gT_tb 2036 (by decide +kernel) (by decide +kernel)
theorem bw_1631 : Cond.instanceMethod yX12_later ∈ gT := gT_tb 2037 (by decide +kernel) (by decide +kernel)
theorem bw_1632 : Cond.selects RX12 yX12_later yX12_later ∈ gT := gT_tb 2038 (by decide +kernel) (by decide +kernel)
theorem bw_1633 : Cond.methodLink RL 152 yX11_falses ∈ gT := gT_tb 1267 (by decide +kernel) (by decide +kernel)
theorem bw_1634 : Cond.instanceMethod yX11_falses ∈ gT := gT_tb 1268 (by decide +kernel) (by decide +kernel)
theorem bw_1635 : Cond.selects RX11 yX11_falses yX11_falses ∈ gT := gT_tb 1269 (by decide +kernel) (by decide +kernel)
theorem bw_1636 : Cond.methodLink RL 155 yX12_falses ∈ gT := gT_tb 2041 (by decide +kernel) (by decide +kernel)
theorem bw_1637 : Cond.instanceMethod yX12_falses ∈ gT := gT_tb 2042 (by decide +kernel) (by decide +kernel)
theorem bw_1638 : Cond.selects RX12 yX12_falses yX12_falses ∈ gT := gT_tb 2043 (by decide +kernel) (by decide +kernel)
theorem bw_1639 : Cond.methodLink RL 156 yX11_image ∈ gT := gT_tb 1275 (by decide +kernel) (by decide +kernel)
theorem bw_1640 : Cond.instanceMethod yX11_image ∈ gT := gT_tb 1276 (by decide +kernel) (by decide +kernel)
theorem bw_1641 : Cond.selects RX11 yX11_image yX11_image ∈ gT := gT_tb 1277 (by decide +kernel) (by decide +kernel)
theorem bw_1642 : Cond.methodLink RL 159 yX12_image ∈ gT := gT_tb 2049 (by decide +kernel) (by decide +kernel)
theorem bw_1643 : Cond.instanceMethod yX12_image ∈ gT := gT_tb 2050 (by decide +kernel) (by decide +kernel)
theorem bw_1644 : Cond.selects RX12 yX12_image yX12_image ∈ gT := gT_tb 2051 (by decide +kernel) (by decide +kernel)
theorem bw_1645 : Cond.methodLink RL 160 yX11_back ∈ gT := gT_tb 1279 (by decide +kernel) (by decide +kernel)
theorem bw_1646 : Cond.instanceMethod yX11_back ∈ gT := gT_tb 1280 (by decide +kernel) (by decide +kernel)
theorem bw_1647 : Cond.selects RX11 yX11_back yX11_back ∈ gT := gT_tb 1281 (by decide +kernel) (by decide +kernel)
theorem bw_1648 : Cond.methodLink RL 163 yX12_back ∈ gT := gT_tb 2053 (by decide +kernel) (by decide +kernel)
theorem bw_1649 : Cond.instanceMethod yX12_back ∈ gT := gT_tb 2054 (by decide +kernel) (by decide +kernel)
theorem bw_1650 : Cond.selects RX12 yX12_back yX12_back ∈ gT := gT_tb 2055 (by decide +kernel) (by decide +kernel)
theorem bw_1651 : Cond.methodLink RL 164 yX11_about ∈ gT := gT_tb 1283 (by decide +kernel) (by decide +kernel)
theorem bw_1652 : Cond.instanceMethod yX11_about ∈ gT := gT_tb 1284 (by decide +kernel) (by decide +kernel)
theorem bw_1653 : Cond.selects RX11 yX11_about yX11_about ∈ gT := gT_tb 1285 (by decide +kernel) (by decide +kernel)
theorem bw_1654 : Cond.methodLink RL 167 yX12_about ∈ gT := gT_tb 2057 (by decide +kernel) (by decide +kernel)
theorem bw_1655 : Cond.instanceMethod yX12_about ∈ gT := gT_tb 2058 (by decide +kernel) (by decide +kernel)
theorem bw_1656 : Cond.selects RX12 yX12_about yX12_about ∈ gT := gT_tb 2059 (by decide +kernel) (by decide +kernel)
theorem dL_law_0 : decode cL_law 0 = .ok (.new 7, 3) := by decide +kernel
theorem dL_law_3 : decode cL_law 3 = .ok (.dup, 1) := by decide +kernel
theorem dL_law_4 : decode cL_law 4 = .ok (.invokespecial 9, 3) := by decide +kernel
theorem dL_law_7 : decode cL_law 7 = .ok (.astore_n 1, 1) := by decide +kernel
theorem dL_law_8 : decode cL_law 8 = .ok (.new 10, 3) := by decide +kernel
theorem dL_law_11 : decode cL_law 11 = .ok (.dup, 1) := by decide +kernel
theorem dL_law_12 : decode cL_law 12 = .ok (.invokespecial 12, 3) := by decide +kernel
theorem dL_law_15 : decode cL_law 15 = .ok (.astore_n 2, 1) := by decide +kernel
theorem dL_law_16 : decode cL_law 16 = .ok (.iconst 0, 1) := by decide +kernel
theorem dL_law_17 : decode cL_law 17 = .ok (.istore_n 3, 1) := by decide +kernel
theorem dL_law_18 : decode cL_law 18 = .ok (.iload_n 3, 1) := by decide +kernel
theorem dL_law_19 : decode cL_law 19 = .ok (.aload_n 0, 1) := by decide +kernel
theorem dL_law_20 : decode cL_law 20 = .ok (.arraylength, 1) := by decide +kernel
theorem dL_law_21 : decode cL_law 21 = .ok (.bipush 6, 2) := by decide +kernel
theorem dL_law_23 : decode cL_law 23 = .ok (.isub, 1) := by decide +kernel
theorem dL_law_24 : decode cL_law 24 = .ok (.if_icmp .gt 1199, 3) := by decide +kernel
theorem dL_law_27 : decode cL_law 27 = .ok (.aload_n 0, 1) := by decide +kernel
theorem dL_law_28 : decode cL_law 28 = .ok (.iload_n 3, 1) := by decide +kernel
theorem dL_law_29 : decode cL_law 29 = .ok (.iaload, 1) := by decide +kernel
theorem dL_law_30 : decode cL_law 30 = .ok (.bipush 63, 2) := by decide +kernel
theorem dL_law_32 : decode cL_law 32 = .ok (.iand, 1) := by decide +kernel
theorem dL_law_33 : decode cL_law 33 = .ok (.tableswitch 1184 0 36 #[163, 226, 249, 262, 285, 318, 351, 384, 427, 460, 483, 506, 529, 562, 605, 638, 661, 694, 717, 730, 743, 766, 799, 832, 855, 888, 911, 934, 957, 990, 1013, 1046, 1069, 1092, 1115, 1138, 1161], 163) := by decide +kernel
theorem dL_law_196 : decode cL_law 196 = .ok (.aload_n 1, 1) := by decide +kernel
theorem dL_law_197 : decode cL_law 197 = .ok (.aload_n 0, 1) := by decide +kernel
theorem dL_law_198 : decode cL_law 198 = .ok (.iload_n 3, 1) := by decide +kernel
theorem dL_law_199 : decode cL_law 199 = .ok (.iconst 1, 1) := by decide +kernel
theorem dL_law_200 : decode cL_law 200 = .ok (.iadd, 1) := by decide +kernel
theorem dL_law_201 : decode cL_law 201 = .ok (.iaload, 1) := by decide +kernel
theorem dL_law_202 : decode cL_law 202 = .ok (.aload_n 0, 1) := by decide +kernel
theorem dL_law_203 : decode cL_law 203 = .ok (.iload_n 3, 1) := by decide +kernel
theorem dL_law_204 : decode cL_law 204 = .ok (.iconst 2, 1) := by decide +kernel
theorem dL_law_205 : decode cL_law 205 = .ok (.iadd, 1) := by decide +kernel
theorem dL_law_206 : decode cL_law 206 = .ok (.iaload, 1) := by decide +kernel
theorem dL_law_207 : decode cL_law 207 = .ok (.aload_n 0, 1) := by decide +kernel
theorem dL_law_208 : decode cL_law 208 = .ok (.iload_n 3, 1) := by decide +kernel
theorem dL_law_209 : decode cL_law 209 = .ok (.iconst 3, 1) := by decide +kernel
theorem dL_law_210 : decode cL_law 210 = .ok (.iadd, 1) := by decide +kernel
theorem dL_law_211 : decode cL_law 211 = .ok (.iaload, 1) := by decide +kernel
theorem dL_law_212 : decode cL_law 212 = .ok (.aload_n 0, 1) := by decide +kernel
theorem dL_law_213 : decode cL_law 213 = .ok (.iload_n 3, 1) := by decide +kernel
theorem dL_law_214 : decode cL_law 214 = .ok (.iconst 4, 1) := by decide +kernel
theorem dL_law_215 : decode cL_law 215 = .ok (.iadd, 1) := by decide +kernel
theorem dL_law_216 : decode cL_law 216 = .ok (.iaload, 1) := by decide +kernel
theorem dL_law_217 : decode cL_law 217 = .ok (.aload_n 0, 1) := by decide +kernel
theorem dL_law_218 : decode cL_law 218 = .ok (.iload_n 3, 1) := by decide +kernel
theorem dL_law_219 : decode cL_law 219 = .ok (.iconst 5, 1) := by decide +kernel
theorem dL_law_220 : decode cL_law 220 = .ok (.iadd, 1) := by decide +kernel
theorem dL_law_221 : decode cL_law 221 = .ok (.iaload, 1) := by decide +kernel
theorem dL_law_222 : decode cL_law 222 = .ok (.invokevirtual 13, 3) := by decide +kernel
theorem dL_law_225 : decode cL_law 225 = .ok (.pop, 1) := by decide +kernel
theorem dL_law_226 : decode cL_law 226 = .ok (.aload_n 2, 1) := by decide +kernel
theorem dL_law_227 : decode cL_law 227 = .ok (.aload_n 0, 1) := by decide +kernel
theorem dL_law_228 : decode cL_law 228 = .ok (.iload_n 3, 1) := by decide +kernel
theorem dL_law_229 : decode cL_law 229 = .ok (.iconst 1, 1) := by decide +kernel
theorem dL_law_230 : decode cL_law 230 = .ok (.iadd, 1) := by decide +kernel
theorem dL_law_231 : decode cL_law 231 = .ok (.iaload, 1) := by decide +kernel
theorem dL_law_232 : decode cL_law 232 = .ok (.aload_n 0, 1) := by decide +kernel
theorem dL_law_233 : decode cL_law 233 = .ok (.iload_n 3, 1) := by decide +kernel
theorem dL_law_234 : decode cL_law 234 = .ok (.iconst 2, 1) := by decide +kernel
theorem dL_law_235 : decode cL_law 235 = .ok (.iadd, 1) := by decide +kernel
theorem dL_law_236 : decode cL_law 236 = .ok (.iaload, 1) := by decide +kernel
theorem dL_law_237 : decode cL_law 237 = .ok (.aload_n 0, 1) := by decide +kernel
theorem dL_law_238 : decode cL_law 238 = .ok (.iload_n 3, 1) := by decide +kernel
theorem dL_law_239 : decode cL_law 239 = .ok (.iconst 3, 1) := by decide +kernel
theorem dL_law_240 : decode cL_law 240 = .ok (.iadd, 1) := by decide +kernel
theorem dL_law_241 : decode cL_law 241 = .ok (.iaload, 1) := by decide +kernel
theorem dL_law_242 : decode cL_law 242 = .ok (.aload_n 0, 1) := by decide +kernel
theorem dL_law_243 : decode cL_law 243 = .ok (.iload_n 3, 1) := by decide +kernel
theorem dL_law_244 : decode cL_law 244 = .ok (.iconst 4, 1) := by decide +kernel
theorem dL_law_245 : decode cL_law 245 = .ok (.iadd, 1) := by decide +kernel
theorem dL_law_246 : decode cL_law 246 = .ok (.iaload, 1) := by decide +kernel
theorem dL_law_247 : decode cL_law 247 = .ok (.aload_n 0, 1) := by decide +kernel
theorem dL_law_248 : decode cL_law 248 = .ok (.iload_n 3, 1) := by decide +kernel
theorem dL_law_249 : decode cL_law 249 = .ok (.iconst 5, 1) := by decide +kernel
theorem dL_law_250 : decode cL_law 250 = .ok (.iadd, 1) := by decide +kernel
theorem dL_law_251 : decode cL_law 251 = .ok (.iaload, 1) := by decide +kernel
theorem dL_law_252 : decode cL_law 252 = .ok (.invokevirtual 17, 3) := by decide +kernel
theorem dL_law_255 : decode cL_law 255 = .ok (.pop, 1) := by decide +kernel
theorem dL_law_256 : decode cL_law 256 = .ok (.goto 961, 3) := by decide +kernel
theorem dL_law_259 : decode cL_law 259 = .ok (.aload_n 1, 1) := by decide +kernel
theorem dL_law_260 : decode cL_law 260 = .ok (.aload_n 0, 1) := by decide +kernel
theorem dL_law_261 : decode cL_law 261 = .ok (.iload_n 3, 1) := by decide +kernel
theorem dL_law_262 : decode cL_law 262 = .ok (.iconst 1, 1) := by decide +kernel
theorem dL_law_263 : decode cL_law 263 = .ok (.iadd, 1) := by decide +kernel
theorem dL_law_264 : decode cL_law 264 = .ok (.iaload, 1) := by decide +kernel
theorem dL_law_265 : decode cL_law 265 = .ok (.invokevirtual 18, 3) := by decide +kernel
theorem dL_law_268 : decode cL_law 268 = .ok (.pop, 1) := by decide +kernel
theorem dL_law_269 : decode cL_law 269 = .ok (.aload_n 2, 1) := by decide +kernel
theorem dL_law_270 : decode cL_law 270 = .ok (.aload_n 0, 1) := by decide +kernel
theorem dL_law_271 : decode cL_law 271 = .ok (.iload_n 3, 1) := by decide +kernel
theorem dL_law_272 : decode cL_law 272 = .ok (.iconst 1, 1) := by decide +kernel
theorem dL_law_273 : decode cL_law 273 = .ok (.iadd, 1) := by decide +kernel
theorem dL_law_274 : decode cL_law 274 = .ok (.iaload, 1) := by decide +kernel
theorem dL_law_275 : decode cL_law 275 = .ok (.invokevirtual 22, 3) := by decide +kernel
theorem dL_law_278 : decode cL_law 278 = .ok (.pop, 1) := by decide +kernel
theorem dL_law_279 : decode cL_law 279 = .ok (.goto 938, 3) := by decide +kernel
theorem dL_law_282 : decode cL_law 282 = .ok (.aload_n 1, 1) := by decide +kernel
theorem dL_law_283 : decode cL_law 283 = .ok (.invokevirtual 23, 3) := by decide +kernel
theorem dL_law_286 : decode cL_law 286 = .ok (.pop, 1) := by decide +kernel
theorem dL_law_287 : decode cL_law 287 = .ok (.aload_n 2, 1) := by decide +kernel
theorem dL_law_288 : decode cL_law 288 = .ok (.invokevirtual 27, 3) := by decide +kernel
theorem dL_law_291 : decode cL_law 291 = .ok (.pop, 1) := by decide +kernel
theorem dL_law_292 : decode cL_law 292 = .ok (.goto 925, 3) := by decide +kernel
theorem dL_law_295 : decode cL_law 295 = .ok (.aload_n 1, 1) := by decide +kernel
theorem dL_law_296 : decode cL_law 296 = .ok (.aload_n 0, 1) := by decide +kernel
theorem dL_law_297 : decode cL_law 297 = .ok (.iload_n 3, 1) := by decide +kernel
theorem dL_law_298 : decode cL_law 298 = .ok (.iconst 1, 1) := by decide +kernel
theorem dL_law_299 : decode cL_law 299 = .ok (.iadd, 1) := by decide +kernel
theorem dL_law_300 : decode cL_law 300 = .ok (.iaload, 1) := by decide +kernel
theorem dL_law_301 : decode cL_law 301 = .ok (.invokevirtual 28, 3) := by decide +kernel
theorem dL_law_304 : decode cL_law 304 = .ok (.pop, 1) := by decide +kernel
theorem dL_law_305 : decode cL_law 305 = .ok (.aload_n 2, 1) := by decide +kernel
theorem dL_law_306 : decode cL_law 306 = .ok (.aload_n 0, 1) := by decide +kernel
theorem dL_law_307 : decode cL_law 307 = .ok (.iload_n 3, 1) := by decide +kernel
theorem dL_law_308 : decode cL_law 308 = .ok (.iconst 1, 1) := by decide +kernel
theorem dL_law_309 : decode cL_law 309 = .ok (.iadd, 1) := by decide +kernel
theorem dL_law_310 : decode cL_law 310 = .ok (.iaload, 1) := by decide +kernel
theorem dL_law_311 : decode cL_law 311 = .ok (.invokevirtual 31, 3) := by decide +kernel
theorem dL_law_314 : decode cL_law 314 = .ok (.pop, 1) := by decide +kernel
theorem dL_law_315 : decode cL_law 315 = .ok (.goto 902, 3) := by decide +kernel
theorem dL_law_318 : decode cL_law 318 = .ok (.aload_n 1, 1) := by decide +kernel
theorem dL_law_319 : decode cL_law 319 = .ok (.aload_n 0, 1) := by decide +kernel
theorem dL_law_320 : decode cL_law 320 = .ok (.iload_n 3, 1) := by decide +kernel
theorem dL_law_321 : decode cL_law 321 = .ok (.iconst 1, 1) := by decide +kernel
theorem dL_law_322 : decode cL_law 322 = .ok (.iadd, 1) := by decide +kernel
theorem dL_law_323 : decode cL_law 323 = .ok (.iaload, 1) := by decide +kernel
theorem dL_law_324 : decode cL_law 324 = .ok (.aload_n 0, 1) := by decide +kernel
theorem dL_law_325 : decode cL_law 325 = .ok (.iload_n 3, 1) := by decide +kernel
theorem dL_law_326 : decode cL_law 326 = .ok (.iconst 2, 1) := by decide +kernel
theorem dL_law_327 : decode cL_law 327 = .ok (.iadd, 1) := by decide +kernel
theorem dL_law_328 : decode cL_law 328 = .ok (.iaload, 1) := by decide +kernel
theorem dL_law_329 : decode cL_law 329 = .ok (.invokevirtual 32, 3) := by decide +kernel
theorem dL_law_332 : decode cL_law 332 = .ok (.pop, 1) := by decide +kernel
theorem dL_law_333 : decode cL_law 333 = .ok (.aload_n 2, 1) := by decide +kernel
theorem dL_law_334 : decode cL_law 334 = .ok (.aload_n 0, 1) := by decide +kernel
theorem dL_law_335 : decode cL_law 335 = .ok (.iload_n 3, 1) := by decide +kernel
theorem dL_law_336 : decode cL_law 336 = .ok (.iconst 1, 1) := by decide +kernel
theorem dL_law_337 : decode cL_law 337 = .ok (.iadd, 1) := by decide +kernel
theorem dL_law_338 : decode cL_law 338 = .ok (.iaload, 1) := by decide +kernel
theorem dL_law_339 : decode cL_law 339 = .ok (.aload_n 0, 1) := by decide +kernel
theorem dL_law_340 : decode cL_law 340 = .ok (.iload_n 3, 1) := by decide +kernel
theorem dL_law_341 : decode cL_law 341 = .ok (.iconst 2, 1) := by decide +kernel
theorem dL_law_342 : decode cL_law 342 = .ok (.iadd, 1) := by decide +kernel
theorem dL_law_343 : decode cL_law 343 = .ok (.iaload, 1) := by decide +kernel
theorem dL_law_344 : decode cL_law 344 = .ok (.invokevirtual 36, 3) := by decide +kernel
theorem dL_law_347 : decode cL_law 347 = .ok (.pop, 1) := by decide +kernel
theorem dL_law_348 : decode cL_law 348 = .ok (.goto 869, 3) := by decide +kernel
theorem dL_law_351 : decode cL_law 351 = .ok (.aload_n 1, 1) := by decide +kernel
theorem dL_law_352 : decode cL_law 352 = .ok (.aload_n 0, 1) := by decide +kernel
theorem dL_law_353 : decode cL_law 353 = .ok (.iload_n 3, 1) := by decide +kernel
theorem dL_law_354 : decode cL_law 354 = .ok (.iconst 1, 1) := by decide +kernel
theorem dL_law_355 : decode cL_law 355 = .ok (.iadd, 1) := by decide +kernel
theorem dL_law_356 : decode cL_law 356 = .ok (.iaload, 1) := by decide +kernel
theorem dL_law_357 : decode cL_law 357 = .ok (.aload_n 0, 1) := by decide +kernel
theorem dL_law_358 : decode cL_law 358 = .ok (.iload_n 3, 1) := by decide +kernel
theorem dL_law_359 : decode cL_law 359 = .ok (.iconst 2, 1) := by decide +kernel
theorem dL_law_360 : decode cL_law 360 = .ok (.iadd, 1) := by decide +kernel
theorem dL_law_361 : decode cL_law 361 = .ok (.iaload, 1) := by decide +kernel
theorem dL_law_362 : decode cL_law 362 = .ok (.invokevirtual 37, 3) := by decide +kernel
theorem dL_law_365 : decode cL_law 365 = .ok (.pop, 1) := by decide +kernel
theorem dL_law_366 : decode cL_law 366 = .ok (.aload_n 2, 1) := by decide +kernel
theorem dL_law_367 : decode cL_law 367 = .ok (.aload_n 0, 1) := by decide +kernel
theorem dL_law_368 : decode cL_law 368 = .ok (.iload_n 3, 1) := by decide +kernel
theorem dL_law_369 : decode cL_law 369 = .ok (.iconst 1, 1) := by decide +kernel
theorem dL_law_370 : decode cL_law 370 = .ok (.iadd, 1) := by decide +kernel
theorem dL_law_371 : decode cL_law 371 = .ok (.iaload, 1) := by decide +kernel
theorem dL_law_372 : decode cL_law 372 = .ok (.aload_n 0, 1) := by decide +kernel
theorem dL_law_373 : decode cL_law 373 = .ok (.iload_n 3, 1) := by decide +kernel
theorem dL_law_374 : decode cL_law 374 = .ok (.iconst 2, 1) := by decide +kernel
theorem dL_law_375 : decode cL_law 375 = .ok (.iadd, 1) := by decide +kernel
theorem dL_law_376 : decode cL_law 376 = .ok (.iaload, 1) := by decide +kernel
theorem dL_law_377 : decode cL_law 377 = .ok (.invokevirtual 40, 3) := by decide +kernel
theorem dL_law_380 : decode cL_law 380 = .ok (.pop, 1) := by decide +kernel
theorem dL_law_381 : decode cL_law 381 = .ok (.goto 836, 3) := by decide +kernel
theorem dL_law_384 : decode cL_law 384 = .ok (.aload_n 1, 1) := by decide +kernel
theorem dL_law_385 : decode cL_law 385 = .ok (.aload_n 0, 1) := by decide +kernel
theorem dL_law_386 : decode cL_law 386 = .ok (.iload_n 3, 1) := by decide +kernel
theorem dL_law_387 : decode cL_law 387 = .ok (.iconst 1, 1) := by decide +kernel
theorem dL_law_388 : decode cL_law 388 = .ok (.iadd, 1) := by decide +kernel
theorem dL_law_389 : decode cL_law 389 = .ok (.iaload, 1) := by decide +kernel
theorem dL_law_390 : decode cL_law 390 = .ok (.aload_n 0, 1) := by decide +kernel
theorem dL_law_391 : decode cL_law 391 = .ok (.iload_n 3, 1) := by decide +kernel
theorem dL_law_392 : decode cL_law 392 = .ok (.iconst 2, 1) := by decide +kernel
theorem dL_law_393 : decode cL_law 393 = .ok (.iadd, 1) := by decide +kernel
theorem dL_law_394 : decode cL_law 394 = .ok (.iaload, 1) := by decide +kernel
theorem dL_law_395 : decode cL_law 395 = .ok (.invokevirtual 41, 3) := by decide +kernel
theorem dL_law_398 : decode cL_law 398 = .ok (.pop, 1) := by decide +kernel
theorem dL_law_399 : decode cL_law 399 = .ok (.aload_n 2, 1) := by decide +kernel
theorem dL_law_400 : decode cL_law 400 = .ok (.aload_n 0, 1) := by decide +kernel
theorem dL_law_401 : decode cL_law 401 = .ok (.iload_n 3, 1) := by decide +kernel
theorem dL_law_402 : decode cL_law 402 = .ok (.iconst 1, 1) := by decide +kernel
theorem dL_law_403 : decode cL_law 403 = .ok (.iadd, 1) := by decide +kernel
theorem dL_law_404 : decode cL_law 404 = .ok (.iaload, 1) := by decide +kernel
theorem dL_law_405 : decode cL_law 405 = .ok (.aload_n 0, 1) := by decide +kernel
theorem dL_law_406 : decode cL_law 406 = .ok (.iload_n 3, 1) := by decide +kernel
theorem dL_law_407 : decode cL_law 407 = .ok (.iconst 2, 1) := by decide +kernel
theorem dL_law_408 : decode cL_law 408 = .ok (.iadd, 1) := by decide +kernel
theorem dL_law_409 : decode cL_law 409 = .ok (.iaload, 1) := by decide +kernel
theorem dL_law_410 : decode cL_law 410 = .ok (.invokevirtual 44, 3) := by decide +kernel
theorem dL_law_413 : decode cL_law 413 = .ok (.pop, 1) := by decide +kernel
theorem dL_law_414 : decode cL_law 414 = .ok (.goto 803, 3) := by decide +kernel
theorem dL_law_417 : decode cL_law 417 = .ok (.aload_n 1, 1) := by decide +kernel
theorem dL_law_418 : decode cL_law 418 = .ok (.aload_n 0, 1) := by decide +kernel
theorem dL_law_419 : decode cL_law 419 = .ok (.iload_n 3, 1) := by decide +kernel
theorem dL_law_420 : decode cL_law 420 = .ok (.iconst 1, 1) := by decide +kernel
theorem dL_law_421 : decode cL_law 421 = .ok (.iadd, 1) := by decide +kernel
theorem dL_law_422 : decode cL_law 422 = .ok (.iaload, 1) := by decide +kernel
theorem dL_law_423 : decode cL_law 423 = .ok (.aload_n 0, 1) := by decide +kernel
theorem dL_law_424 : decode cL_law 424 = .ok (.iload_n 3, 1) := by decide +kernel
theorem dL_law_425 : decode cL_law 425 = .ok (.iconst 2, 1) := by decide +kernel
theorem dL_law_426 : decode cL_law 426 = .ok (.iadd, 1) := by decide +kernel
theorem dL_law_427 : decode cL_law 427 = .ok (.iaload, 1) := by decide +kernel
theorem dL_law_428 : decode cL_law 428 = .ok (.aload_n 0, 1) := by decide +kernel
theorem dL_law_429 : decode cL_law 429 = .ok (.iload_n 3, 1) := by decide +kernel
theorem dL_law_430 : decode cL_law 430 = .ok (.iconst 3, 1) := by decide +kernel
theorem dL_law_431 : decode cL_law 431 = .ok (.iadd, 1) := by decide +kernel
theorem dL_law_432 : decode cL_law 432 = .ok (.iaload, 1) := by decide +kernel
theorem dL_law_433 : decode cL_law 433 = .ok (.invokevirtual 45, 3) := by decide +kernel
theorem dL_law_436 : decode cL_law 436 = .ok (.pop, 1) := by decide +kernel
theorem dL_law_437 : decode cL_law 437 = .ok (.aload_n 2, 1) := by decide +kernel
theorem dL_law_438 : decode cL_law 438 = .ok (.aload_n 0, 1) := by decide +kernel
theorem dL_law_439 : decode cL_law 439 = .ok (.iload_n 3, 1) := by decide +kernel
theorem dL_law_440 : decode cL_law 440 = .ok (.iconst 1, 1) := by decide +kernel
theorem dL_law_441 : decode cL_law 441 = .ok (.iadd, 1) := by decide +kernel
theorem dL_law_442 : decode cL_law 442 = .ok (.iaload, 1) := by decide +kernel
theorem dL_law_443 : decode cL_law 443 = .ok (.aload_n 0, 1) := by decide +kernel
theorem dL_law_444 : decode cL_law 444 = .ok (.iload_n 3, 1) := by decide +kernel
theorem dL_law_445 : decode cL_law 445 = .ok (.iconst 2, 1) := by decide +kernel
theorem dL_law_446 : decode cL_law 446 = .ok (.iadd, 1) := by decide +kernel
theorem dL_law_447 : decode cL_law 447 = .ok (.iaload, 1) := by decide +kernel
theorem dL_law_448 : decode cL_law 448 = .ok (.aload_n 0, 1) := by decide +kernel
theorem dL_law_449 : decode cL_law 449 = .ok (.iload_n 3, 1) := by decide +kernel
theorem dL_law_450 : decode cL_law 450 = .ok (.iconst 3, 1) := by decide +kernel
theorem dL_law_451 : decode cL_law 451 = .ok (.iadd, 1) := by decide +kernel
theorem dL_law_452 : decode cL_law 452 = .ok (.iaload, 1) := by decide +kernel
theorem dL_law_453 : decode cL_law 453 = .ok (.invokevirtual 49, 3) := by decide +kernel
theorem dL_law_456 : decode cL_law 456 = .ok (.pop, 1) := by decide +kernel
theorem dL_law_457 : decode cL_law 457 = .ok (.goto 760, 3) := by decide +kernel
theorem dL_law_460 : decode cL_law 460 = .ok (.aload_n 1, 1) := by decide +kernel
theorem dL_law_461 : decode cL_law 461 = .ok (.aload_n 0, 1) := by decide +kernel
theorem dL_law_462 : decode cL_law 462 = .ok (.iload_n 3, 1) := by decide +kernel
theorem dL_law_463 : decode cL_law 463 = .ok (.iconst 1, 1) := by decide +kernel
theorem dL_law_464 : decode cL_law 464 = .ok (.iadd, 1) := by decide +kernel
theorem dL_law_465 : decode cL_law 465 = .ok (.iaload, 1) := by decide +kernel
theorem dL_law_466 : decode cL_law 466 = .ok (.aload_n 0, 1) := by decide +kernel
theorem dL_law_467 : decode cL_law 467 = .ok (.iload_n 3, 1) := by decide +kernel
theorem dL_law_468 : decode cL_law 468 = .ok (.iconst 2, 1) := by decide +kernel
theorem dL_law_469 : decode cL_law 469 = .ok (.iadd, 1) := by decide +kernel
theorem dL_law_470 : decode cL_law 470 = .ok (.iaload, 1) := by decide +kernel
theorem dL_law_471 : decode cL_law 471 = .ok (.invokevirtual 50, 3) := by decide +kernel
theorem dL_law_474 : decode cL_law 474 = .ok (.pop, 1) := by decide +kernel
theorem dL_law_475 : decode cL_law 475 = .ok (.aload_n 2, 1) := by decide +kernel
theorem dL_law_476 : decode cL_law 476 = .ok (.aload_n 0, 1) := by decide +kernel
theorem dL_law_477 : decode cL_law 477 = .ok (.iload_n 3, 1) := by decide +kernel
theorem dL_law_478 : decode cL_law 478 = .ok (.iconst 1, 1) := by decide +kernel
theorem dL_law_479 : decode cL_law 479 = .ok (.iadd, 1) := by decide +kernel
theorem dL_law_480 : decode cL_law 480 = .ok (.iaload, 1) := by decide +kernel
theorem dL_law_481 : decode cL_law 481 = .ok (.aload_n 0, 1) := by decide +kernel
theorem dL_law_482 : decode cL_law 482 = .ok (.iload_n 3, 1) := by decide +kernel
theorem dL_law_483 : decode cL_law 483 = .ok (.iconst 2, 1) := by decide +kernel
theorem dL_law_484 : decode cL_law 484 = .ok (.iadd, 1) := by decide +kernel
theorem dL_law_485 : decode cL_law 485 = .ok (.iaload, 1) := by decide +kernel
theorem dL_law_486 : decode cL_law 486 = .ok (.invokevirtual 53, 3) := by decide +kernel
theorem dL_law_489 : decode cL_law 489 = .ok (.pop, 1) := by decide +kernel
theorem dL_law_490 : decode cL_law 490 = .ok (.goto 727, 3) := by decide +kernel
theorem dL_law_493 : decode cL_law 493 = .ok (.aload_n 1, 1) := by decide +kernel
theorem dL_law_494 : decode cL_law 494 = .ok (.aload_n 0, 1) := by decide +kernel
theorem dL_law_495 : decode cL_law 495 = .ok (.iload_n 3, 1) := by decide +kernel
theorem dL_law_496 : decode cL_law 496 = .ok (.iconst 1, 1) := by decide +kernel
theorem dL_law_497 : decode cL_law 497 = .ok (.iadd, 1) := by decide +kernel
theorem dL_law_498 : decode cL_law 498 = .ok (.iaload, 1) := by decide +kernel
theorem dL_law_499 : decode cL_law 499 = .ok (.invokevirtual 54, 3) := by decide +kernel
theorem dL_law_502 : decode cL_law 502 = .ok (.pop, 1) := by decide +kernel
theorem dL_law_503 : decode cL_law 503 = .ok (.aload_n 2, 1) := by decide +kernel
theorem dL_law_504 : decode cL_law 504 = .ok (.aload_n 0, 1) := by decide +kernel
theorem dL_law_505 : decode cL_law 505 = .ok (.iload_n 3, 1) := by decide +kernel
theorem dL_law_506 : decode cL_law 506 = .ok (.iconst 1, 1) := by decide +kernel
theorem dL_law_507 : decode cL_law 507 = .ok (.iadd, 1) := by decide +kernel
theorem dL_law_508 : decode cL_law 508 = .ok (.iaload, 1) := by decide +kernel
theorem dL_law_509 : decode cL_law 509 = .ok (.invokevirtual 57, 3) := by decide +kernel
theorem dL_law_512 : decode cL_law 512 = .ok (.pop, 1) := by decide +kernel
theorem dL_law_513 : decode cL_law 513 = .ok (.goto 704, 3) := by decide +kernel
theorem dL_law_516 : decode cL_law 516 = .ok (.aload_n 1, 1) := by decide +kernel
theorem dL_law_517 : decode cL_law 517 = .ok (.aload_n 0, 1) := by decide +kernel
theorem dL_law_518 : decode cL_law 518 = .ok (.iload_n 3, 1) := by decide +kernel
theorem dL_law_519 : decode cL_law 519 = .ok (.iconst 1, 1) := by decide +kernel
theorem dL_law_520 : decode cL_law 520 = .ok (.iadd, 1) := by decide +kernel
theorem dL_law_521 : decode cL_law 521 = .ok (.iaload, 1) := by decide +kernel
theorem dL_law_522 : decode cL_law 522 = .ok (.invokevirtual 58, 3) := by decide +kernel
theorem dL_law_525 : decode cL_law 525 = .ok (.pop, 1) := by decide +kernel
theorem dL_law_526 : decode cL_law 526 = .ok (.aload_n 2, 1) := by decide +kernel
theorem dL_law_527 : decode cL_law 527 = .ok (.aload_n 0, 1) := by decide +kernel
theorem dL_law_528 : decode cL_law 528 = .ok (.iload_n 3, 1) := by decide +kernel
theorem dL_law_529 : decode cL_law 529 = .ok (.iconst 1, 1) := by decide +kernel
theorem dL_law_530 : decode cL_law 530 = .ok (.iadd, 1) := by decide +kernel
theorem dL_law_531 : decode cL_law 531 = .ok (.iaload, 1) := by decide +kernel
theorem dL_law_532 : decode cL_law 532 = .ok (.invokevirtual 61, 3) := by decide +kernel
theorem dL_law_535 : decode cL_law 535 = .ok (.pop, 1) := by decide +kernel
theorem dL_law_536 : decode cL_law 536 = .ok (.goto 681, 3) := by decide +kernel
theorem dL_law_539 : decode cL_law 539 = .ok (.aload_n 1, 1) := by decide +kernel
theorem dL_law_540 : decode cL_law 540 = .ok (.aload_n 0, 1) := by decide +kernel
theorem dL_law_541 : decode cL_law 541 = .ok (.iload_n 3, 1) := by decide +kernel
theorem dL_law_542 : decode cL_law 542 = .ok (.iconst 1, 1) := by decide +kernel
theorem dL_law_543 : decode cL_law 543 = .ok (.iadd, 1) := by decide +kernel
theorem dL_law_544 : decode cL_law 544 = .ok (.iaload, 1) := by decide +kernel
theorem dL_law_545 : decode cL_law 545 = .ok (.invokevirtual 62, 3) := by decide +kernel
theorem dL_law_548 : decode cL_law 548 = .ok (.pop, 1) := by decide +kernel
theorem dL_law_549 : decode cL_law 549 = .ok (.aload_n 2, 1) := by decide +kernel
theorem dL_law_550 : decode cL_law 550 = .ok (.aload_n 0, 1) := by decide +kernel
theorem dL_law_551 : decode cL_law 551 = .ok (.iload_n 3, 1) := by decide +kernel
theorem dL_law_552 : decode cL_law 552 = .ok (.iconst 1, 1) := by decide +kernel
theorem dL_law_553 : decode cL_law 553 = .ok (.iadd, 1) := by decide +kernel
theorem dL_law_554 : decode cL_law 554 = .ok (.iaload, 1) := by decide +kernel
theorem dL_law_555 : decode cL_law 555 = .ok (.invokevirtual 65, 3) := by decide +kernel
theorem dL_law_558 : decode cL_law 558 = .ok (.pop, 1) := by decide +kernel
theorem dL_law_559 : decode cL_law 559 = .ok (.goto 658, 3) := by decide +kernel
theorem dL_law_562 : decode cL_law 562 = .ok (.aload_n 1, 1) := by decide +kernel
theorem dL_law_563 : decode cL_law 563 = .ok (.aload_n 0, 1) := by decide +kernel
theorem dL_law_564 : decode cL_law 564 = .ok (.iload_n 3, 1) := by decide +kernel
theorem dL_law_565 : decode cL_law 565 = .ok (.iconst 1, 1) := by decide +kernel
theorem dL_law_566 : decode cL_law 566 = .ok (.iadd, 1) := by decide +kernel
theorem dL_law_567 : decode cL_law 567 = .ok (.iaload, 1) := by decide +kernel
theorem dL_law_568 : decode cL_law 568 = .ok (.aload_n 0, 1) := by decide +kernel
theorem dL_law_569 : decode cL_law 569 = .ok (.iload_n 3, 1) := by decide +kernel
theorem dL_law_570 : decode cL_law 570 = .ok (.iconst 2, 1) := by decide +kernel
theorem dL_law_571 : decode cL_law 571 = .ok (.iadd, 1) := by decide +kernel
theorem dL_law_572 : decode cL_law 572 = .ok (.iaload, 1) := by decide +kernel
theorem dL_law_573 : decode cL_law 573 = .ok (.invokevirtual 66, 3) := by decide +kernel
theorem dL_law_576 : decode cL_law 576 = .ok (.pop, 1) := by decide +kernel
theorem dL_law_577 : decode cL_law 577 = .ok (.aload_n 2, 1) := by decide +kernel
theorem dL_law_578 : decode cL_law 578 = .ok (.aload_n 0, 1) := by decide +kernel
theorem dL_law_579 : decode cL_law 579 = .ok (.iload_n 3, 1) := by decide +kernel
theorem dL_law_580 : decode cL_law 580 = .ok (.iconst 1, 1) := by decide +kernel
theorem dL_law_581 : decode cL_law 581 = .ok (.iadd, 1) := by decide +kernel
theorem dL_law_582 : decode cL_law 582 = .ok (.iaload, 1) := by decide +kernel
theorem dL_law_583 : decode cL_law 583 = .ok (.aload_n 0, 1) := by decide +kernel
theorem dL_law_584 : decode cL_law 584 = .ok (.iload_n 3, 1) := by decide +kernel
theorem dL_law_585 : decode cL_law 585 = .ok (.iconst 2, 1) := by decide +kernel
theorem dL_law_586 : decode cL_law 586 = .ok (.iadd, 1) := by decide +kernel
theorem dL_law_587 : decode cL_law 587 = .ok (.iaload, 1) := by decide +kernel
theorem dL_law_588 : decode cL_law 588 = .ok (.invokevirtual 69, 3) := by decide +kernel
theorem dL_law_591 : decode cL_law 591 = .ok (.pop, 1) := by decide +kernel
theorem dL_law_592 : decode cL_law 592 = .ok (.goto 625, 3) := by decide +kernel
theorem dL_law_595 : decode cL_law 595 = .ok (.aload_n 1, 1) := by decide +kernel
theorem dL_law_596 : decode cL_law 596 = .ok (.aload_n 0, 1) := by decide +kernel
theorem dL_law_597 : decode cL_law 597 = .ok (.iload_n 3, 1) := by decide +kernel
theorem dL_law_598 : decode cL_law 598 = .ok (.iconst 1, 1) := by decide +kernel
theorem dL_law_599 : decode cL_law 599 = .ok (.iadd, 1) := by decide +kernel
theorem dL_law_600 : decode cL_law 600 = .ok (.iaload, 1) := by decide +kernel
theorem dL_law_601 : decode cL_law 601 = .ok (.aload_n 0, 1) := by decide +kernel
theorem dL_law_602 : decode cL_law 602 = .ok (.iload_n 3, 1) := by decide +kernel
theorem dL_law_603 : decode cL_law 603 = .ok (.iconst 2, 1) := by decide +kernel
theorem dL_law_604 : decode cL_law 604 = .ok (.iadd, 1) := by decide +kernel
theorem dL_law_605 : decode cL_law 605 = .ok (.iaload, 1) := by decide +kernel
theorem dL_law_606 : decode cL_law 606 = .ok (.aload_n 0, 1) := by decide +kernel
theorem dL_law_607 : decode cL_law 607 = .ok (.iload_n 3, 1) := by decide +kernel
theorem dL_law_608 : decode cL_law 608 = .ok (.iconst 3, 1) := by decide +kernel
theorem dL_law_609 : decode cL_law 609 = .ok (.iadd, 1) := by decide +kernel
theorem dL_law_610 : decode cL_law 610 = .ok (.iaload, 1) := by decide +kernel
theorem dL_law_611 : decode cL_law 611 = .ok (.invokevirtual 70, 3) := by decide +kernel
theorem dL_law_614 : decode cL_law 614 = .ok (.pop, 1) := by decide +kernel
theorem dL_law_615 : decode cL_law 615 = .ok (.aload_n 2, 1) := by decide +kernel
theorem dL_law_616 : decode cL_law 616 = .ok (.aload_n 0, 1) := by decide +kernel
theorem dL_law_617 : decode cL_law 617 = .ok (.iload_n 3, 1) := by decide +kernel
theorem dL_law_618 : decode cL_law 618 = .ok (.iconst 1, 1) := by decide +kernel
theorem dL_law_619 : decode cL_law 619 = .ok (.iadd, 1) := by decide +kernel
theorem dL_law_620 : decode cL_law 620 = .ok (.iaload, 1) := by decide +kernel
theorem dL_law_621 : decode cL_law 621 = .ok (.aload_n 0, 1) := by decide +kernel
theorem dL_law_622 : decode cL_law 622 = .ok (.iload_n 3, 1) := by decide +kernel
theorem dL_law_623 : decode cL_law 623 = .ok (.iconst 2, 1) := by decide +kernel
theorem dL_law_624 : decode cL_law 624 = .ok (.iadd, 1) := by decide +kernel
theorem dL_law_625 : decode cL_law 625 = .ok (.iaload, 1) := by decide +kernel
theorem dL_law_626 : decode cL_law 626 = .ok (.aload_n 0, 1) := by decide +kernel
theorem dL_law_627 : decode cL_law 627 = .ok (.iload_n 3, 1) := by decide +kernel
theorem dL_law_628 : decode cL_law 628 = .ok (.iconst 3, 1) := by decide +kernel
theorem dL_law_629 : decode cL_law 629 = .ok (.iadd, 1) := by decide +kernel
theorem dL_law_630 : decode cL_law 630 = .ok (.iaload, 1) := by decide +kernel
theorem dL_law_631 : decode cL_law 631 = .ok (.invokevirtual 73, 3) := by decide +kernel
theorem dL_law_634 : decode cL_law 634 = .ok (.pop, 1) := by decide +kernel
theorem dL_law_635 : decode cL_law 635 = .ok (.goto 582, 3) := by decide +kernel
theorem dL_law_638 : decode cL_law 638 = .ok (.aload_n 1, 1) := by decide +kernel
theorem dL_law_639 : decode cL_law 639 = .ok (.aload_n 0, 1) := by decide +kernel
theorem dL_law_640 : decode cL_law 640 = .ok (.iload_n 3, 1) := by decide +kernel
theorem dL_law_641 : decode cL_law 641 = .ok (.iconst 1, 1) := by decide +kernel
theorem dL_law_642 : decode cL_law 642 = .ok (.iadd, 1) := by decide +kernel
theorem dL_law_643 : decode cL_law 643 = .ok (.iaload, 1) := by decide +kernel
theorem dL_law_644 : decode cL_law 644 = .ok (.aload_n 0, 1) := by decide +kernel
theorem dL_law_645 : decode cL_law 645 = .ok (.iload_n 3, 1) := by decide +kernel
theorem dL_law_646 : decode cL_law 646 = .ok (.iconst 2, 1) := by decide +kernel
theorem dL_law_647 : decode cL_law 647 = .ok (.iadd, 1) := by decide +kernel
theorem dL_law_648 : decode cL_law 648 = .ok (.iaload, 1) := by decide +kernel
theorem dL_law_649 : decode cL_law 649 = .ok (.invokevirtual 74, 3) := by decide +kernel
theorem dL_law_652 : decode cL_law 652 = .ok (.pop, 1) := by decide +kernel
theorem dL_law_653 : decode cL_law 653 = .ok (.aload_n 2, 1) := by decide +kernel
theorem dL_law_654 : decode cL_law 654 = .ok (.aload_n 0, 1) := by decide +kernel
theorem dL_law_655 : decode cL_law 655 = .ok (.iload_n 3, 1) := by decide +kernel
theorem dL_law_656 : decode cL_law 656 = .ok (.iconst 1, 1) := by decide +kernel
theorem dL_law_657 : decode cL_law 657 = .ok (.iadd, 1) := by decide +kernel
theorem dL_law_658 : decode cL_law 658 = .ok (.iaload, 1) := by decide +kernel
theorem dL_law_659 : decode cL_law 659 = .ok (.aload_n 0, 1) := by decide +kernel
theorem dL_law_660 : decode cL_law 660 = .ok (.iload_n 3, 1) := by decide +kernel
theorem dL_law_661 : decode cL_law 661 = .ok (.iconst 2, 1) := by decide +kernel
theorem dL_law_662 : decode cL_law 662 = .ok (.iadd, 1) := by decide +kernel
theorem dL_law_663 : decode cL_law 663 = .ok (.iaload, 1) := by decide +kernel
theorem dL_law_664 : decode cL_law 664 = .ok (.invokevirtual 77, 3) := by decide +kernel
theorem dL_law_667 : decode cL_law 667 = .ok (.pop, 1) := by decide +kernel
theorem dL_law_668 : decode cL_law 668 = .ok (.goto 549, 3) := by decide +kernel
theorem dL_law_671 : decode cL_law 671 = .ok (.aload_n 1, 1) := by decide +kernel
theorem dL_law_672 : decode cL_law 672 = .ok (.aload_n 0, 1) := by decide +kernel
theorem dL_law_673 : decode cL_law 673 = .ok (.iload_n 3, 1) := by decide +kernel
theorem dL_law_674 : decode cL_law 674 = .ok (.iconst 1, 1) := by decide +kernel
theorem dL_law_675 : decode cL_law 675 = .ok (.iadd, 1) := by decide +kernel
theorem dL_law_676 : decode cL_law 676 = .ok (.iaload, 1) := by decide +kernel
theorem dL_law_677 : decode cL_law 677 = .ok (.invokevirtual 78, 3) := by decide +kernel
theorem dL_law_680 : decode cL_law 680 = .ok (.pop, 1) := by decide +kernel
theorem dL_law_681 : decode cL_law 681 = .ok (.aload_n 2, 1) := by decide +kernel
theorem dL_law_682 : decode cL_law 682 = .ok (.aload_n 0, 1) := by decide +kernel
theorem dL_law_683 : decode cL_law 683 = .ok (.iload_n 3, 1) := by decide +kernel
theorem dL_law_684 : decode cL_law 684 = .ok (.iconst 1, 1) := by decide +kernel
theorem dL_law_685 : decode cL_law 685 = .ok (.iadd, 1) := by decide +kernel
theorem dL_law_686 : decode cL_law 686 = .ok (.iaload, 1) := by decide +kernel
theorem dL_law_687 : decode cL_law 687 = .ok (.invokevirtual 82, 3) := by decide +kernel
theorem dL_law_690 : decode cL_law 690 = .ok (.pop, 1) := by decide +kernel
theorem dL_law_691 : decode cL_law 691 = .ok (.goto 526, 3) := by decide +kernel
theorem dL_law_694 : decode cL_law 694 = .ok (.aload_n 1, 1) := by decide +kernel
theorem dL_law_695 : decode cL_law 695 = .ok (.aload_n 0, 1) := by decide +kernel
theorem dL_law_696 : decode cL_law 696 = .ok (.iload_n 3, 1) := by decide +kernel
theorem dL_law_697 : decode cL_law 697 = .ok (.iconst 1, 1) := by decide +kernel
theorem dL_law_698 : decode cL_law 698 = .ok (.iadd, 1) := by decide +kernel
theorem dL_law_699 : decode cL_law 699 = .ok (.iaload, 1) := by decide +kernel
theorem dL_law_700 : decode cL_law 700 = .ok (.aload_n 0, 1) := by decide +kernel
theorem dL_law_701 : decode cL_law 701 = .ok (.iload_n 3, 1) := by decide +kernel
theorem dL_law_702 : decode cL_law 702 = .ok (.iconst 2, 1) := by decide +kernel
theorem dL_law_703 : decode cL_law 703 = .ok (.iadd, 1) := by decide +kernel
theorem dL_law_704 : decode cL_law 704 = .ok (.iaload, 1) := by decide +kernel
theorem dL_law_705 : decode cL_law 705 = .ok (.invokevirtual 83, 3) := by decide +kernel
theorem dL_law_708 : decode cL_law 708 = .ok (.pop, 1) := by decide +kernel
theorem dL_law_709 : decode cL_law 709 = .ok (.aload_n 2, 1) := by decide +kernel
theorem dL_law_710 : decode cL_law 710 = .ok (.aload_n 0, 1) := by decide +kernel
theorem dL_law_711 : decode cL_law 711 = .ok (.iload_n 3, 1) := by decide +kernel
theorem dL_law_712 : decode cL_law 712 = .ok (.iconst 1, 1) := by decide +kernel
theorem dL_law_713 : decode cL_law 713 = .ok (.iadd, 1) := by decide +kernel
theorem dL_law_714 : decode cL_law 714 = .ok (.iaload, 1) := by decide +kernel
theorem dL_law_715 : decode cL_law 715 = .ok (.aload_n 0, 1) := by decide +kernel
theorem dL_law_716 : decode cL_law 716 = .ok (.iload_n 3, 1) := by decide +kernel
theorem dL_law_717 : decode cL_law 717 = .ok (.iconst 2, 1) := by decide +kernel
theorem dL_law_718 : decode cL_law 718 = .ok (.iadd, 1) := by decide +kernel
theorem dL_law_719 : decode cL_law 719 = .ok (.iaload, 1) := by decide +kernel
theorem dL_law_720 : decode cL_law 720 = .ok (.invokevirtual 86, 3) := by decide +kernel
theorem dL_law_723 : decode cL_law 723 = .ok (.pop, 1) := by decide +kernel
theorem dL_law_724 : decode cL_law 724 = .ok (.goto 493, 3) := by decide +kernel
theorem dL_law_727 : decode cL_law 727 = .ok (.aload_n 1, 1) := by decide +kernel
theorem dL_law_728 : decode cL_law 728 = .ok (.aload_n 0, 1) := by decide +kernel
theorem dL_law_729 : decode cL_law 729 = .ok (.iload_n 3, 1) := by decide +kernel
theorem dL_law_730 : decode cL_law 730 = .ok (.iconst 1, 1) := by decide +kernel
theorem dL_law_731 : decode cL_law 731 = .ok (.iadd, 1) := by decide +kernel
theorem dL_law_732 : decode cL_law 732 = .ok (.iaload, 1) := by decide +kernel
theorem dL_law_733 : decode cL_law 733 = .ok (.invokevirtual 87, 3) := by decide +kernel
theorem dL_law_736 : decode cL_law 736 = .ok (.pop, 1) := by decide +kernel
theorem dL_law_737 : decode cL_law 737 = .ok (.aload_n 2, 1) := by decide +kernel
theorem dL_law_738 : decode cL_law 738 = .ok (.aload_n 0, 1) := by decide +kernel
theorem dL_law_739 : decode cL_law 739 = .ok (.iload_n 3, 1) := by decide +kernel
theorem dL_law_740 : decode cL_law 740 = .ok (.iconst 1, 1) := by decide +kernel
theorem dL_law_741 : decode cL_law 741 = .ok (.iadd, 1) := by decide +kernel
theorem dL_law_742 : decode cL_law 742 = .ok (.iaload, 1) := by decide +kernel
theorem dL_law_743 : decode cL_law 743 = .ok (.invokevirtual 90, 3) := by decide +kernel
theorem dL_law_746 : decode cL_law 746 = .ok (.pop, 1) := by decide +kernel
theorem dL_law_747 : decode cL_law 747 = .ok (.goto 470, 3) := by decide +kernel
theorem dL_law_750 : decode cL_law 750 = .ok (.aload_n 1, 1) := by decide +kernel
theorem dL_law_751 : decode cL_law 751 = .ok (.invokevirtual 91, 3) := by decide +kernel
theorem dL_law_754 : decode cL_law 754 = .ok (.pop, 1) := by decide +kernel
theorem dL_law_755 : decode cL_law 755 = .ok (.aload_n 2, 1) := by decide +kernel
theorem dL_law_756 : decode cL_law 756 = .ok (.invokevirtual 95, 3) := by decide +kernel
theorem dL_law_759 : decode cL_law 759 = .ok (.pop, 1) := by decide +kernel
theorem dL_law_760 : decode cL_law 760 = .ok (.goto 457, 3) := by decide +kernel
theorem dL_law_763 : decode cL_law 763 = .ok (.aload_n 1, 1) := by decide +kernel
theorem dL_law_764 : decode cL_law 764 = .ok (.invokevirtual 96, 3) := by decide +kernel
theorem dL_law_767 : decode cL_law 767 = .ok (.pop, 1) := by decide +kernel
theorem dL_law_768 : decode cL_law 768 = .ok (.aload_n 2, 1) := by decide +kernel
theorem dL_law_769 : decode cL_law 769 = .ok (.invokevirtual 99, 3) := by decide +kernel
theorem dL_law_772 : decode cL_law 772 = .ok (.pop, 1) := by decide +kernel
theorem dL_law_773 : decode cL_law 773 = .ok (.goto 444, 3) := by decide +kernel
theorem dL_law_776 : decode cL_law 776 = .ok (.aload_n 1, 1) := by decide +kernel
theorem dL_law_777 : decode cL_law 777 = .ok (.aload_n 0, 1) := by decide +kernel
theorem dL_law_778 : decode cL_law 778 = .ok (.iload_n 3, 1) := by decide +kernel
theorem dL_law_779 : decode cL_law 779 = .ok (.iconst 1, 1) := by decide +kernel
theorem dL_law_780 : decode cL_law 780 = .ok (.iadd, 1) := by decide +kernel
theorem dL_law_781 : decode cL_law 781 = .ok (.iaload, 1) := by decide +kernel
theorem dL_law_782 : decode cL_law 782 = .ok (.invokevirtual 100, 3) := by decide +kernel
theorem dL_law_785 : decode cL_law 785 = .ok (.pop, 1) := by decide +kernel
theorem dL_law_786 : decode cL_law 786 = .ok (.aload_n 2, 1) := by decide +kernel
theorem dL_law_787 : decode cL_law 787 = .ok (.aload_n 0, 1) := by decide +kernel
theorem dL_law_788 : decode cL_law 788 = .ok (.iload_n 3, 1) := by decide +kernel
theorem dL_law_789 : decode cL_law 789 = .ok (.iconst 1, 1) := by decide +kernel
theorem dL_law_790 : decode cL_law 790 = .ok (.iadd, 1) := by decide +kernel
theorem dL_law_791 : decode cL_law 791 = .ok (.iaload, 1) := by decide +kernel
theorem dL_law_792 : decode cL_law 792 = .ok (.invokevirtual 103, 3) := by decide +kernel
theorem dL_law_795 : decode cL_law 795 = .ok (.pop, 1) := by decide +kernel
theorem dL_law_796 : decode cL_law 796 = .ok (.goto 421, 3) := by decide +kernel
theorem dL_law_799 : decode cL_law 799 = .ok (.aload_n 1, 1) := by decide +kernel
theorem dL_law_800 : decode cL_law 800 = .ok (.aload_n 0, 1) := by decide +kernel
theorem dL_law_801 : decode cL_law 801 = .ok (.iload_n 3, 1) := by decide +kernel
theorem dL_law_802 : decode cL_law 802 = .ok (.iconst 1, 1) := by decide +kernel
theorem dL_law_803 : decode cL_law 803 = .ok (.iadd, 1) := by decide +kernel
theorem dL_law_804 : decode cL_law 804 = .ok (.iaload, 1) := by decide +kernel
theorem dL_law_805 : decode cL_law 805 = .ok (.aload_n 0, 1) := by decide +kernel
theorem dL_law_806 : decode cL_law 806 = .ok (.iload_n 3, 1) := by decide +kernel
theorem dL_law_807 : decode cL_law 807 = .ok (.iconst 2, 1) := by decide +kernel
theorem dL_law_808 : decode cL_law 808 = .ok (.iadd, 1) := by decide +kernel
theorem dL_law_809 : decode cL_law 809 = .ok (.iaload, 1) := by decide +kernel
theorem dL_law_810 : decode cL_law 810 = .ok (.invokevirtual 104, 3) := by decide +kernel
theorem dL_law_813 : decode cL_law 813 = .ok (.pop, 1) := by decide +kernel
theorem dL_law_814 : decode cL_law 814 = .ok (.aload_n 2, 1) := by decide +kernel
theorem dL_law_815 : decode cL_law 815 = .ok (.aload_n 0, 1) := by decide +kernel
theorem dL_law_816 : decode cL_law 816 = .ok (.iload_n 3, 1) := by decide +kernel
theorem dL_law_817 : decode cL_law 817 = .ok (.iconst 1, 1) := by decide +kernel
theorem dL_law_818 : decode cL_law 818 = .ok (.iadd, 1) := by decide +kernel
theorem dL_law_819 : decode cL_law 819 = .ok (.iaload, 1) := by decide +kernel
theorem dL_law_820 : decode cL_law 820 = .ok (.aload_n 0, 1) := by decide +kernel
theorem dL_law_821 : decode cL_law 821 = .ok (.iload_n 3, 1) := by decide +kernel
theorem dL_law_822 : decode cL_law 822 = .ok (.iconst 2, 1) := by decide +kernel
theorem dL_law_823 : decode cL_law 823 = .ok (.iadd, 1) := by decide +kernel
theorem dL_law_824 : decode cL_law 824 = .ok (.iaload, 1) := by decide +kernel
theorem dL_law_825 : decode cL_law 825 = .ok (.invokevirtual 107, 3) := by decide +kernel
theorem dL_law_828 : decode cL_law 828 = .ok (.pop, 1) := by decide +kernel
theorem dL_law_829 : decode cL_law 829 = .ok (.goto 388, 3) := by decide +kernel
theorem dL_law_832 : decode cL_law 832 = .ok (.aload_n 1, 1) := by decide +kernel
theorem dL_law_833 : decode cL_law 833 = .ok (.aload_n 0, 1) := by decide +kernel
theorem dL_law_834 : decode cL_law 834 = .ok (.iload_n 3, 1) := by decide +kernel
theorem dL_law_835 : decode cL_law 835 = .ok (.iconst 1, 1) := by decide +kernel
theorem dL_law_836 : decode cL_law 836 = .ok (.iadd, 1) := by decide +kernel
theorem dL_law_837 : decode cL_law 837 = .ok (.iaload, 1) := by decide +kernel
theorem dL_law_838 : decode cL_law 838 = .ok (.aload_n 0, 1) := by decide +kernel
theorem dL_law_839 : decode cL_law 839 = .ok (.iload_n 3, 1) := by decide +kernel
theorem dL_law_840 : decode cL_law 840 = .ok (.iconst 2, 1) := by decide +kernel
theorem dL_law_841 : decode cL_law 841 = .ok (.iadd, 1) := by decide +kernel
theorem dL_law_842 : decode cL_law 842 = .ok (.iaload, 1) := by decide +kernel
theorem dL_law_843 : decode cL_law 843 = .ok (.invokevirtual 108, 3) := by decide +kernel
theorem dL_law_846 : decode cL_law 846 = .ok (.pop, 1) := by decide +kernel
theorem dL_law_847 : decode cL_law 847 = .ok (.aload_n 2, 1) := by decide +kernel
theorem dL_law_848 : decode cL_law 848 = .ok (.aload_n 0, 1) := by decide +kernel
theorem dL_law_849 : decode cL_law 849 = .ok (.iload_n 3, 1) := by decide +kernel
theorem dL_law_850 : decode cL_law 850 = .ok (.iconst 1, 1) := by decide +kernel
theorem dL_law_851 : decode cL_law 851 = .ok (.iadd, 1) := by decide +kernel
theorem dL_law_852 : decode cL_law 852 = .ok (.iaload, 1) := by decide +kernel
theorem dL_law_853 : decode cL_law 853 = .ok (.aload_n 0, 1) := by decide +kernel
theorem dL_law_854 : decode cL_law 854 = .ok (.iload_n 3, 1) := by decide +kernel
theorem dL_law_855 : decode cL_law 855 = .ok (.iconst 2, 1) := by decide +kernel
theorem dL_law_856 : decode cL_law 856 = .ok (.iadd, 1) := by decide +kernel
theorem dL_law_857 : decode cL_law 857 = .ok (.iaload, 1) := by decide +kernel
theorem dL_law_858 : decode cL_law 858 = .ok (.invokevirtual 111, 3) := by decide +kernel
theorem dL_law_861 : decode cL_law 861 = .ok (.pop, 1) := by decide +kernel
theorem dL_law_862 : decode cL_law 862 = .ok (.goto 355, 3) := by decide +kernel
theorem dL_law_865 : decode cL_law 865 = .ok (.aload_n 1, 1) := by decide +kernel
theorem dL_law_866 : decode cL_law 866 = .ok (.aload_n 0, 1) := by decide +kernel
theorem dL_law_867 : decode cL_law 867 = .ok (.iload_n 3, 1) := by decide +kernel
theorem dL_law_868 : decode cL_law 868 = .ok (.iconst 1, 1) := by decide +kernel
theorem dL_law_869 : decode cL_law 869 = .ok (.iadd, 1) := by decide +kernel
theorem dL_law_870 : decode cL_law 870 = .ok (.iaload, 1) := by decide +kernel
theorem dL_law_871 : decode cL_law 871 = .ok (.invokevirtual 112, 3) := by decide +kernel
theorem dL_law_874 : decode cL_law 874 = .ok (.pop, 1) := by decide +kernel
theorem dL_law_875 : decode cL_law 875 = .ok (.aload_n 2, 1) := by decide +kernel
theorem dL_law_876 : decode cL_law 876 = .ok (.aload_n 0, 1) := by decide +kernel
theorem dL_law_877 : decode cL_law 877 = .ok (.iload_n 3, 1) := by decide +kernel
theorem dL_law_878 : decode cL_law 878 = .ok (.iconst 1, 1) := by decide +kernel
theorem dL_law_879 : decode cL_law 879 = .ok (.iadd, 1) := by decide +kernel
theorem dL_law_880 : decode cL_law 880 = .ok (.iaload, 1) := by decide +kernel
theorem dL_law_881 : decode cL_law 881 = .ok (.invokevirtual 115, 3) := by decide +kernel
theorem dL_law_884 : decode cL_law 884 = .ok (.pop, 1) := by decide +kernel
theorem dL_law_885 : decode cL_law 885 = .ok (.goto 332, 3) := by decide +kernel
theorem dL_law_888 : decode cL_law 888 = .ok (.aload_n 1, 1) := by decide +kernel
theorem dL_law_889 : decode cL_law 889 = .ok (.aload_n 0, 1) := by decide +kernel
theorem dL_law_890 : decode cL_law 890 = .ok (.iload_n 3, 1) := by decide +kernel
theorem dL_law_891 : decode cL_law 891 = .ok (.iconst 1, 1) := by decide +kernel
theorem dL_law_892 : decode cL_law 892 = .ok (.iadd, 1) := by decide +kernel
theorem dL_law_893 : decode cL_law 893 = .ok (.iaload, 1) := by decide +kernel
theorem dL_law_894 : decode cL_law 894 = .ok (.aload_n 0, 1) := by decide +kernel
theorem dL_law_895 : decode cL_law 895 = .ok (.iload_n 3, 1) := by decide +kernel
theorem dL_law_896 : decode cL_law 896 = .ok (.iconst 2, 1) := by decide +kernel
theorem dL_law_897 : decode cL_law 897 = .ok (.iadd, 1) := by decide +kernel
theorem dL_law_898 : decode cL_law 898 = .ok (.iaload, 1) := by decide +kernel
theorem dL_law_899 : decode cL_law 899 = .ok (.invokevirtual 116, 3) := by decide +kernel
theorem dL_law_902 : decode cL_law 902 = .ok (.pop, 1) := by decide +kernel
theorem dL_law_903 : decode cL_law 903 = .ok (.aload_n 2, 1) := by decide +kernel
theorem dL_law_904 : decode cL_law 904 = .ok (.aload_n 0, 1) := by decide +kernel
theorem dL_law_905 : decode cL_law 905 = .ok (.iload_n 3, 1) := by decide +kernel
theorem dL_law_906 : decode cL_law 906 = .ok (.iconst 1, 1) := by decide +kernel
theorem dL_law_907 : decode cL_law 907 = .ok (.iadd, 1) := by decide +kernel
theorem dL_law_908 : decode cL_law 908 = .ok (.iaload, 1) := by decide +kernel
theorem dL_law_909 : decode cL_law 909 = .ok (.aload_n 0, 1) := by decide +kernel
theorem dL_law_910 : decode cL_law 910 = .ok (.iload_n 3, 1) := by decide +kernel
theorem dL_law_911 : decode cL_law 911 = .ok (.iconst 2, 1) := by decide +kernel
theorem dL_law_912 : decode cL_law 912 = .ok (.iadd, 1) := by decide +kernel
theorem dL_law_913 : decode cL_law 913 = .ok (.iaload, 1) := by decide +kernel
theorem dL_law_914 : decode cL_law 914 = .ok (.invokevirtual 119, 3) := by decide +kernel
theorem dL_law_917 : decode cL_law 917 = .ok (.pop, 1) := by decide +kernel
theorem dL_law_918 : decode cL_law 918 = .ok (.goto 299, 3) := by decide +kernel
theorem dL_law_921 : decode cL_law 921 = .ok (.aload_n 1, 1) := by decide +kernel
theorem dL_law_922 : decode cL_law 922 = .ok (.aload_n 0, 1) := by decide +kernel
theorem dL_law_923 : decode cL_law 923 = .ok (.iload_n 3, 1) := by decide +kernel
theorem dL_law_924 : decode cL_law 924 = .ok (.iconst 1, 1) := by decide +kernel
theorem dL_law_925 : decode cL_law 925 = .ok (.iadd, 1) := by decide +kernel
theorem dL_law_926 : decode cL_law 926 = .ok (.iaload, 1) := by decide +kernel
theorem dL_law_927 : decode cL_law 927 = .ok (.invokevirtual 120, 3) := by decide +kernel
theorem dL_law_930 : decode cL_law 930 = .ok (.pop, 1) := by decide +kernel
theorem dL_law_931 : decode cL_law 931 = .ok (.aload_n 2, 1) := by decide +kernel
theorem dL_law_932 : decode cL_law 932 = .ok (.aload_n 0, 1) := by decide +kernel
theorem dL_law_933 : decode cL_law 933 = .ok (.iload_n 3, 1) := by decide +kernel
theorem dL_law_934 : decode cL_law 934 = .ok (.iconst 1, 1) := by decide +kernel
theorem dL_law_935 : decode cL_law 935 = .ok (.iadd, 1) := by decide +kernel
theorem dL_law_936 : decode cL_law 936 = .ok (.iaload, 1) := by decide +kernel
theorem dL_law_937 : decode cL_law 937 = .ok (.invokevirtual 123, 3) := by decide +kernel
theorem dL_law_940 : decode cL_law 940 = .ok (.pop, 1) := by decide +kernel
theorem dL_law_941 : decode cL_law 941 = .ok (.goto 276, 3) := by decide +kernel
theorem dL_law_944 : decode cL_law 944 = .ok (.aload_n 1, 1) := by decide +kernel
theorem dL_law_945 : decode cL_law 945 = .ok (.aload_n 0, 1) := by decide +kernel
theorem dL_law_946 : decode cL_law 946 = .ok (.iload_n 3, 1) := by decide +kernel
theorem dL_law_947 : decode cL_law 947 = .ok (.iconst 1, 1) := by decide +kernel
theorem dL_law_948 : decode cL_law 948 = .ok (.iadd, 1) := by decide +kernel
theorem dL_law_949 : decode cL_law 949 = .ok (.iaload, 1) := by decide +kernel
theorem dL_law_950 : decode cL_law 950 = .ok (.invokevirtual 124, 3) := by decide +kernel
theorem dL_law_953 : decode cL_law 953 = .ok (.pop, 1) := by decide +kernel
theorem dL_law_954 : decode cL_law 954 = .ok (.aload_n 2, 1) := by decide +kernel
theorem dL_law_955 : decode cL_law 955 = .ok (.aload_n 0, 1) := by decide +kernel
theorem dL_law_956 : decode cL_law 956 = .ok (.iload_n 3, 1) := by decide +kernel
theorem dL_law_957 : decode cL_law 957 = .ok (.iconst 1, 1) := by decide +kernel
theorem dL_law_958 : decode cL_law 958 = .ok (.iadd, 1) := by decide +kernel
theorem dL_law_959 : decode cL_law 959 = .ok (.iaload, 1) := by decide +kernel
theorem dL_law_960 : decode cL_law 960 = .ok (.invokevirtual 127, 3) := by decide +kernel
theorem dL_law_963 : decode cL_law 963 = .ok (.pop, 1) := by decide +kernel
theorem dL_law_964 : decode cL_law 964 = .ok (.goto 253, 3) := by decide +kernel
theorem dL_law_967 : decode cL_law 967 = .ok (.aload_n 1, 1) := by decide +kernel
theorem dL_law_968 : decode cL_law 968 = .ok (.aload_n 0, 1) := by decide +kernel
theorem dL_law_969 : decode cL_law 969 = .ok (.iload_n 3, 1) := by decide +kernel
theorem dL_law_970 : decode cL_law 970 = .ok (.iconst 1, 1) := by decide +kernel
theorem dL_law_971 : decode cL_law 971 = .ok (.iadd, 1) := by decide +kernel
theorem dL_law_972 : decode cL_law 972 = .ok (.iaload, 1) := by decide +kernel
theorem dL_law_973 : decode cL_law 973 = .ok (.invokevirtual 128, 3) := by decide +kernel
theorem dL_law_976 : decode cL_law 976 = .ok (.pop, 1) := by decide +kernel
theorem dL_law_977 : decode cL_law 977 = .ok (.aload_n 2, 1) := by decide +kernel
theorem dL_law_978 : decode cL_law 978 = .ok (.aload_n 0, 1) := by decide +kernel
theorem dL_law_979 : decode cL_law 979 = .ok (.iload_n 3, 1) := by decide +kernel
theorem dL_law_980 : decode cL_law 980 = .ok (.iconst 1, 1) := by decide +kernel
theorem dL_law_981 : decode cL_law 981 = .ok (.iadd, 1) := by decide +kernel
theorem dL_law_982 : decode cL_law 982 = .ok (.iaload, 1) := by decide +kernel
theorem dL_law_983 : decode cL_law 983 = .ok (.invokevirtual 131, 3) := by decide +kernel
theorem dL_law_986 : decode cL_law 986 = .ok (.pop, 1) := by decide +kernel
theorem dL_law_987 : decode cL_law 987 = .ok (.goto 230, 3) := by decide +kernel
theorem dL_law_990 : decode cL_law 990 = .ok (.aload_n 1, 1) := by decide +kernel
theorem dL_law_991 : decode cL_law 991 = .ok (.aload_n 0, 1) := by decide +kernel
theorem dL_law_992 : decode cL_law 992 = .ok (.iload_n 3, 1) := by decide +kernel
theorem dL_law_993 : decode cL_law 993 = .ok (.iconst 1, 1) := by decide +kernel
theorem dL_law_994 : decode cL_law 994 = .ok (.iadd, 1) := by decide +kernel
theorem dL_law_995 : decode cL_law 995 = .ok (.iaload, 1) := by decide +kernel
theorem dL_law_996 : decode cL_law 996 = .ok (.aload_n 0, 1) := by decide +kernel
theorem dL_law_997 : decode cL_law 997 = .ok (.iload_n 3, 1) := by decide +kernel
theorem dL_law_998 : decode cL_law 998 = .ok (.iconst 2, 1) := by decide +kernel
theorem dL_law_999 : decode cL_law 999 = .ok (.iadd, 1) := by decide +kernel
theorem dL_law_1000 : decode cL_law 1000 = .ok (.iaload, 1) := by decide +kernel
theorem dL_law_1001 : decode cL_law 1001 = .ok (.invokevirtual 132, 3) := by decide +kernel
theorem dL_law_1004 : decode cL_law 1004 = .ok (.pop, 1) := by decide +kernel
theorem dL_law_1005 : decode cL_law 1005 = .ok (.aload_n 2, 1) := by decide +kernel
theorem dL_law_1006 : decode cL_law 1006 = .ok (.aload_n 0, 1) := by decide +kernel
theorem dL_law_1007 : decode cL_law 1007 = .ok (.iload_n 3, 1) := by decide +kernel
theorem dL_law_1008 : decode cL_law 1008 = .ok (.iconst 1, 1) := by decide +kernel
theorem dL_law_1009 : decode cL_law 1009 = .ok (.iadd, 1) := by decide +kernel
theorem dL_law_1010 : decode cL_law 1010 = .ok (.iaload, 1) := by decide +kernel
theorem dL_law_1011 : decode cL_law 1011 = .ok (.aload_n 0, 1) := by decide +kernel
theorem dL_law_1012 : decode cL_law 1012 = .ok (.iload_n 3, 1) := by decide +kernel
theorem dL_law_1013 : decode cL_law 1013 = .ok (.iconst 2, 1) := by decide +kernel
theorem dL_law_1014 : decode cL_law 1014 = .ok (.iadd, 1) := by decide +kernel
theorem dL_law_1015 : decode cL_law 1015 = .ok (.iaload, 1) := by decide +kernel
theorem dL_law_1016 : decode cL_law 1016 = .ok (.invokevirtual 135, 3) := by decide +kernel
theorem dL_law_1019 : decode cL_law 1019 = .ok (.pop, 1) := by decide +kernel
theorem dL_law_1020 : decode cL_law 1020 = .ok (.goto 197, 3) := by decide +kernel
theorem dL_law_1023 : decode cL_law 1023 = .ok (.aload_n 1, 1) := by decide +kernel
theorem dL_law_1024 : decode cL_law 1024 = .ok (.aload_n 0, 1) := by decide +kernel
theorem dL_law_1025 : decode cL_law 1025 = .ok (.iload_n 3, 1) := by decide +kernel
theorem dL_law_1026 : decode cL_law 1026 = .ok (.iconst 1, 1) := by decide +kernel
theorem dL_law_1027 : decode cL_law 1027 = .ok (.iadd, 1) := by decide +kernel
theorem dL_law_1028 : decode cL_law 1028 = .ok (.iaload, 1) := by decide +kernel
theorem dL_law_1029 : decode cL_law 1029 = .ok (.invokevirtual 136, 3) := by decide +kernel
theorem dL_law_1032 : decode cL_law 1032 = .ok (.pop, 1) := by decide +kernel
theorem dL_law_1033 : decode cL_law 1033 = .ok (.aload_n 2, 1) := by decide +kernel
theorem dL_law_1034 : decode cL_law 1034 = .ok (.aload_n 0, 1) := by decide +kernel
theorem dL_law_1035 : decode cL_law 1035 = .ok (.iload_n 3, 1) := by decide +kernel
theorem dL_law_1036 : decode cL_law 1036 = .ok (.iconst 1, 1) := by decide +kernel
theorem dL_law_1037 : decode cL_law 1037 = .ok (.iadd, 1) := by decide +kernel
theorem dL_law_1038 : decode cL_law 1038 = .ok (.iaload, 1) := by decide +kernel
theorem dL_law_1039 : decode cL_law 1039 = .ok (.invokevirtual 139, 3) := by decide +kernel
theorem dL_law_1042 : decode cL_law 1042 = .ok (.pop, 1) := by decide +kernel
theorem dL_law_1043 : decode cL_law 1043 = .ok (.goto 174, 3) := by decide +kernel
theorem dL_law_1046 : decode cL_law 1046 = .ok (.aload_n 1, 1) := by decide +kernel
theorem dL_law_1047 : decode cL_law 1047 = .ok (.aload_n 0, 1) := by decide +kernel
theorem dL_law_1048 : decode cL_law 1048 = .ok (.iload_n 3, 1) := by decide +kernel
theorem dL_law_1049 : decode cL_law 1049 = .ok (.iconst 1, 1) := by decide +kernel
theorem dL_law_1050 : decode cL_law 1050 = .ok (.iadd, 1) := by decide +kernel
theorem dL_law_1051 : decode cL_law 1051 = .ok (.iaload, 1) := by decide +kernel
theorem dL_law_1052 : decode cL_law 1052 = .ok (.aload_n 0, 1) := by decide +kernel
theorem dL_law_1053 : decode cL_law 1053 = .ok (.iload_n 3, 1) := by decide +kernel
theorem dL_law_1054 : decode cL_law 1054 = .ok (.iconst 2, 1) := by decide +kernel
theorem dL_law_1055 : decode cL_law 1055 = .ok (.iadd, 1) := by decide +kernel
theorem dL_law_1056 : decode cL_law 1056 = .ok (.iaload, 1) := by decide +kernel
theorem dL_law_1057 : decode cL_law 1057 = .ok (.invokevirtual 140, 3) := by decide +kernel
theorem dL_law_1060 : decode cL_law 1060 = .ok (.pop, 1) := by decide +kernel
theorem dL_law_1061 : decode cL_law 1061 = .ok (.aload_n 2, 1) := by decide +kernel
theorem dL_law_1062 : decode cL_law 1062 = .ok (.aload_n 0, 1) := by decide +kernel
theorem dL_law_1063 : decode cL_law 1063 = .ok (.iload_n 3, 1) := by decide +kernel
theorem dL_law_1064 : decode cL_law 1064 = .ok (.iconst 1, 1) := by decide +kernel
theorem dL_law_1065 : decode cL_law 1065 = .ok (.iadd, 1) := by decide +kernel
theorem dL_law_1066 : decode cL_law 1066 = .ok (.iaload, 1) := by decide +kernel
theorem dL_law_1067 : decode cL_law 1067 = .ok (.aload_n 0, 1) := by decide +kernel
theorem dL_law_1068 : decode cL_law 1068 = .ok (.iload_n 3, 1) := by decide +kernel
theorem dL_law_1069 : decode cL_law 1069 = .ok (.iconst 2, 1) := by decide +kernel
theorem dL_law_1070 : decode cL_law 1070 = .ok (.iadd, 1) := by decide +kernel
theorem dL_law_1071 : decode cL_law 1071 = .ok (.iaload, 1) := by decide +kernel
theorem dL_law_1072 : decode cL_law 1072 = .ok (.invokevirtual 143, 3) := by decide +kernel
theorem dL_law_1075 : decode cL_law 1075 = .ok (.pop, 1) := by decide +kernel
theorem dL_law_1076 : decode cL_law 1076 = .ok (.goto 141, 3) := by decide +kernel
theorem dL_law_1079 : decode cL_law 1079 = .ok (.aload_n 1, 1) := by decide +kernel
theorem dL_law_1080 : decode cL_law 1080 = .ok (.aload_n 0, 1) := by decide +kernel
theorem dL_law_1081 : decode cL_law 1081 = .ok (.iload_n 3, 1) := by decide +kernel
theorem dL_law_1082 : decode cL_law 1082 = .ok (.iconst 1, 1) := by decide +kernel
theorem dL_law_1083 : decode cL_law 1083 = .ok (.iadd, 1) := by decide +kernel
theorem dL_law_1084 : decode cL_law 1084 = .ok (.iaload, 1) := by decide +kernel
theorem dL_law_1085 : decode cL_law 1085 = .ok (.invokevirtual 144, 3) := by decide +kernel
theorem dL_law_1088 : decode cL_law 1088 = .ok (.pop, 1) := by decide +kernel
theorem dL_law_1089 : decode cL_law 1089 = .ok (.aload_n 2, 1) := by decide +kernel
theorem dL_law_1090 : decode cL_law 1090 = .ok (.aload_n 0, 1) := by decide +kernel
theorem dL_law_1091 : decode cL_law 1091 = .ok (.iload_n 3, 1) := by decide +kernel
theorem dL_law_1092 : decode cL_law 1092 = .ok (.iconst 1, 1) := by decide +kernel
theorem dL_law_1093 : decode cL_law 1093 = .ok (.iadd, 1) := by decide +kernel
theorem dL_law_1094 : decode cL_law 1094 = .ok (.iaload, 1) := by decide +kernel
theorem dL_law_1095 : decode cL_law 1095 = .ok (.invokevirtual 147, 3) := by decide +kernel
theorem dL_law_1098 : decode cL_law 1098 = .ok (.pop, 1) := by decide +kernel
theorem dL_law_1099 : decode cL_law 1099 = .ok (.goto 118, 3) := by decide +kernel
theorem dL_law_1102 : decode cL_law 1102 = .ok (.aload_n 1, 1) := by decide +kernel
theorem dL_law_1103 : decode cL_law 1103 = .ok (.aload_n 0, 1) := by decide +kernel
theorem dL_law_1104 : decode cL_law 1104 = .ok (.iload_n 3, 1) := by decide +kernel
theorem dL_law_1105 : decode cL_law 1105 = .ok (.iconst 1, 1) := by decide +kernel
theorem dL_law_1106 : decode cL_law 1106 = .ok (.iadd, 1) := by decide +kernel
theorem dL_law_1107 : decode cL_law 1107 = .ok (.iaload, 1) := by decide +kernel
theorem dL_law_1108 : decode cL_law 1108 = .ok (.invokevirtual 148, 3) := by decide +kernel
theorem dL_law_1111 : decode cL_law 1111 = .ok (.aload_n 2, 1) := by decide +kernel
theorem dL_law_1112 : decode cL_law 1112 = .ok (.aload_n 0, 1) := by decide +kernel
theorem dL_law_1113 : decode cL_law 1113 = .ok (.iload_n 3, 1) := by decide +kernel
theorem dL_law_1114 : decode cL_law 1114 = .ok (.iconst 1, 1) := by decide +kernel
theorem dL_law_1115 : decode cL_law 1115 = .ok (.iadd, 1) := by decide +kernel
theorem dL_law_1116 : decode cL_law 1116 = .ok (.iaload, 1) := by decide +kernel
theorem dL_law_1117 : decode cL_law 1117 = .ok (.invokevirtual 151, 3) := by decide +kernel
theorem dL_law_1120 : decode cL_law 1120 = .ok (.if_icmp .eq 97, 3) := by decide +kernel
theorem dL_law_1125 : decode cL_law 1125 = .ok (.aload_n 1, 1) := by decide +kernel
theorem dL_law_1126 : decode cL_law 1126 = .ok (.aload_n 0, 1) := by decide +kernel
theorem dL_law_1127 : decode cL_law 1127 = .ok (.iload_n 3, 1) := by decide +kernel
theorem dL_law_1128 : decode cL_law 1128 = .ok (.iconst 1, 1) := by decide +kernel
theorem dL_law_1129 : decode cL_law 1129 = .ok (.iadd, 1) := by decide +kernel
theorem dL_law_1130 : decode cL_law 1130 = .ok (.iaload, 1) := by decide +kernel
theorem dL_law_1131 : decode cL_law 1131 = .ok (.invokevirtual 152, 3) := by decide +kernel
theorem dL_law_1134 : decode cL_law 1134 = .ok (.pop, 1) := by decide +kernel
theorem dL_law_1135 : decode cL_law 1135 = .ok (.aload_n 2, 1) := by decide +kernel
theorem dL_law_1136 : decode cL_law 1136 = .ok (.aload_n 0, 1) := by decide +kernel
theorem dL_law_1137 : decode cL_law 1137 = .ok (.iload_n 3, 1) := by decide +kernel
theorem dL_law_1138 : decode cL_law 1138 = .ok (.iconst 1, 1) := by decide +kernel
theorem dL_law_1139 : decode cL_law 1139 = .ok (.iadd, 1) := by decide +kernel
theorem dL_law_1140 : decode cL_law 1140 = .ok (.iaload, 1) := by decide +kernel
theorem dL_law_1141 : decode cL_law 1141 = .ok (.invokevirtual 155, 3) := by decide +kernel
theorem dL_law_1144 : decode cL_law 1144 = .ok (.pop, 1) := by decide +kernel
theorem dL_law_1145 : decode cL_law 1145 = .ok (.goto 72, 3) := by decide +kernel
theorem dL_law_1148 : decode cL_law 1148 = .ok (.aload_n 1, 1) := by decide +kernel
theorem dL_law_1149 : decode cL_law 1149 = .ok (.aload_n 0, 1) := by decide +kernel
theorem dL_law_1150 : decode cL_law 1150 = .ok (.iload_n 3, 1) := by decide +kernel
theorem dL_law_1151 : decode cL_law 1151 = .ok (.iconst 1, 1) := by decide +kernel
theorem dL_law_1152 : decode cL_law 1152 = .ok (.iadd, 1) := by decide +kernel
theorem dL_law_1153 : decode cL_law 1153 = .ok (.iaload, 1) := by decide +kernel
theorem dL_law_1154 : decode cL_law 1154 = .ok (.invokevirtual 156, 3) := by decide +kernel
theorem dL_law_1157 : decode cL_law 1157 = .ok (.pop, 1) := by decide +kernel
theorem dL_law_1158 : decode cL_law 1158 = .ok (.aload_n 2, 1) := by decide +kernel
theorem dL_law_1159 : decode cL_law 1159 = .ok (.aload_n 0, 1) := by decide +kernel
theorem dL_law_1160 : decode cL_law 1160 = .ok (.iload_n 3, 1) := by decide +kernel
theorem dL_law_1161 : decode cL_law 1161 = .ok (.iconst 1, 1) := by decide +kernel
theorem dL_law_1162 : decode cL_law 1162 = .ok (.iadd, 1) := by decide +kernel
theorem dL_law_1163 : decode cL_law 1163 = .ok (.iaload, 1) := by decide +kernel
theorem dL_law_1164 : decode cL_law 1164 = .ok (.invokevirtual 159, 3) := by decide +kernel
theorem dL_law_1167 : decode cL_law 1167 = .ok (.pop, 1) := by decide +kernel
theorem dL_law_1168 : decode cL_law 1168 = .ok (.goto 49, 3) := by decide +kernel
theorem dL_law_1171 : decode cL_law 1171 = .ok (.aload_n 1, 1) := by decide +kernel
theorem dL_law_1172 : decode cL_law 1172 = .ok (.aload_n 0, 1) := by decide +kernel
theorem dL_law_1173 : decode cL_law 1173 = .ok (.iload_n 3, 1) := by decide +kernel
theorem dL_law_1174 : decode cL_law 1174 = .ok (.iconst 1, 1) := by decide +kernel
theorem dL_law_1175 : decode cL_law 1175 = .ok (.iadd, 1) := by decide +kernel
theorem dL_law_1176 : decode cL_law 1176 = .ok (.iaload, 1) := by decide +kernel
theorem dL_law_1177 : decode cL_law 1177 = .ok (.invokevirtual 160, 3) := by decide +kernel
theorem dL_law_1180 : decode cL_law 1180 = .ok (.pop, 1) := by decide +kernel
theorem dL_law_1181 : decode cL_law 1181 = .ok (.aload_n 2, 1) := by decide +kernel
theorem dL_law_1182 : decode cL_law 1182 = .ok (.aload_n 0, 1) := by decide +kernel
theorem dL_law_1183 : decode cL_law 1183 = .ok (.iload_n 3, 1) := by decide +kernel
theorem dL_law_1184 : decode cL_law 1184 = .ok (.iconst 1, 1) := by decide +kernel
theorem dL_law_1185 : decode cL_law 1185 = .ok (.iadd, 1) := by decide +kernel
theorem dL_law_1186 : decode cL_law 1186 = .ok (.iaload, 1) := by decide +kernel
theorem dL_law_1187 : decode cL_law 1187 = .ok (.invokevirtual 163, 3) := by decide +kernel
theorem dL_law_1190 : decode cL_law 1190 = .ok (.pop, 1) := by decide +kernel
theorem dL_law_1191 : decode cL_law 1191 = .ok (.goto 26, 3) := by decide +kernel
theorem dL_law_1194 : decode cL_law 1194 = .ok (.aload_n 1, 1) := by decide +kernel
theorem dL_law_1195 : decode cL_law 1195 = .ok (.aload_n 0, 1) := by decide +kernel
theorem dL_law_1196 : decode cL_law 1196 = .ok (.iload_n 3, 1) := by decide +kernel
theorem dL_law_1197 : decode cL_law 1197 = .ok (.iconst 1, 1) := by decide +kernel
theorem dL_law_1198 : decode cL_law 1198 = .ok (.iadd, 1) := by decide +kernel
theorem dL_law_1199 : decode cL_law 1199 = .ok (.iaload, 1) := by decide +kernel
theorem dL_law_1200 : decode cL_law 1200 = .ok (.invokevirtual 164, 3) := by decide +kernel
theorem dL_law_1203 : decode cL_law 1203 = .ok (.pop, 1) := by decide +kernel
theorem dL_law_1204 : decode cL_law 1204 = .ok (.aload_n 2, 1) := by decide +kernel
theorem dL_law_1205 : decode cL_law 1205 = .ok (.aload_n 0, 1) := by decide +kernel
theorem dL_law_1206 : decode cL_law 1206 = .ok (.iload_n 3, 1) := by decide +kernel
theorem dL_law_1207 : decode cL_law 1207 = .ok (.iconst 1, 1) := by decide +kernel
theorem dL_law_1208 : decode cL_law 1208 = .ok (.iadd, 1) := by decide +kernel
theorem dL_law_1209 : decode cL_law 1209 = .ok (.iaload, 1) := by decide +kernel
theorem dL_law_1210 : decode cL_law 1210 = .ok (.invokevirtual 167, 3) := by decide +kernel
theorem dL_law_1213 : decode cL_law 1213 = .ok (.pop, 1) := by decide +kernel
theorem dL_law_1214 : decode cL_law 1214 = .ok (.goto 3, 3) := by decide +kernel
theorem dL_law_1217 : decode cL_law 1217 = .ok (.iinc 3 6, 3) := by decide +kernel
theorem dL_law_1220 : decode cL_law 1220 = .ok (.goto (-1202), 3) := by decide +kernel
theorem dL_law_1223 : decode cL_law 1223 = .ok (.iconst 1, 1) := by decide +kernel
theorem dL_law_1224 : decode cL_law 1224 = .ok (.ireturn, 1) := by decide +kernel
set_option maxHeartbeats 40000000 in
set_option maxRecDepth 100000 in
/-- THE LAW, from its entry -/
theorem whole_start {p : Program} {e : Env} {s : State} {m : MethodId} {below : List Frame} {meth : Method} {c : Code} (l : Launch) {b L : Nat} {xs : Nat → Int32} (hL : L ≤ 3072) (C0 : lw_At p s m meth c b L xs) : W p l e room_1 s m #[Value.ref b] below meth c s.heap [] 0 0 (lw_Z below #[Value.ref b] s) (entryFrame m ([Value.ref b] : List Value).toArray 4) := by
  obtain ⟨g, aV, fb, aW, fw, hK, hX, hX2⟩ := law_env C0
  obtain ⟨hx, hb, hr, hml, hown, hts, hXs, hbl, hlocks, hgv⟩ := id C0
  have hT : ∀ w ∈ gT, w.before #[Value.ref b] s = true := fun w h => hts w (List.mem_filter.mp h).1
  have hown : s.vm.findClass RL = some m.cls := hown
  generalize hAe : (fun q : Nat => s.heap.size ≤ q) = A at hX hX2
  have hAe := hAe.symm
  have hA : ∀ q : Nat, s.heap.size ≤ q → A q := by rw [hAe]; exact fun _ h => h
  have hbA : ¬ A b := by rw [hAe]; exact Nat.not_le.mpr hbl
  have hS : va_S A s.heap s.heap [] := va_S.rf
  have hl := lv_entry ([.ref b]) (n := 4) (Nat.le_of_ble_eq_true rfl)
  rw [lg_entry_eq]
  generalize (lg_sl ([.ref b]) ++ List.replicate (4 - (lg_sl ([.ref b])).length) Slot.unset).toArray = ls at hl ⊢
  have hl : lv_has ls 4 [(0, .ref b)] := hl
  refine p_nH (fun H hH => ?_)
  have hS : va_S A s.heap H [] := by rw [hH]; exact hS
  have hP : va_P g.1 vwCl [] H := fun k q h => by simp at h
  have hD : va_D A [] := ⟨fun i j p q h => by simp at h, fun k q h => by simp at h⟩
  refine va_new (D := g.1) (ci := 11) (fs := [.null, .int 0, .null, .null, .null, .null, .int 0, .int 0, .null, .int 0, .null, .null, .null, .null]) (C := RX11) (T := TX11) (N := 14) hx hb hT inF_X11 tyX11 tyX11_ok hown (hT _ bw_1431) (hT _ bw_1428) (hT _ bw_395) hK.1 hP hD hS hA rfl (by decide +kernel) (by decide) (by decide) dL_law_0 (fun q_1 H hP hD hS => ?_)
  refine W.widen (k := 1) (n := 14) (by decide) (by decide) ?_
  have hP : va_P g.1 vwCl [(q_1, .inr (11, [.null, .int 0, .null, .null, .null, .null, .int 0, .int 0, .null, .int 0, .null, .null, .null, .null]))] H := hP
  have hD : va_D A [(q_1, .inr (11, [.null, .int 0, .null, .null, .null, .null, .int 0, .int 0, .null, .int 0, .null, .null, .null, .null]))] := hD
  refine lv_dup hx hb dL_law_3 rfl ?_
  refine k_v (wr := []) (k_I (n := 0) ⟨hx, hb, hml, hown, hT⟩ hK hP hD [0] rfl (by decide) (x_init l g H.size q_1 aV fb) (gI bw_1427) bw_1432 bw_1433 bw_1434 rfl rfl rfl (by decide +kernel) ⟨by decide, by decide⟩ sX.calling (sE.go hX hS (va_free (wc := [(q_1, .inr (11, [.null, .int 0, .null, .null, .null, .null, .int 0, .int 0, .null, .int 0, .null, .null, .null, .null]))]) hD hS hA [0] rfl)) rfl rfl hl.1 (Nat.le_of_ble_eq_true rfl) dL_law_4 ⟨by decide, by decide⟩) hP hD hS hA [0] [] rfl rfl (by decide) (by decide) (fun u H locs hw hP hD hS => ?_)
  refine W.widen (k := 422) (n := 26407) (by decide) (by decide) ?_
  obtain ⟨hu, heu, htu⟩ := hw
  have hP : va_P g.1 vwCl (wX g u) H := hP
  have hD : va_D A (wX g u) := hD
  refine p_tr (x := (u.1 0)) (by rw [heu]) ?_
  refine lv_astore_n (lv' := [(1, .ref (u.1 0)), (0, .ref b)]) hx hb dL_law_7 rfl hl (by decide) rfl (fun ls hl => ?_)
  refine va_new (D := g.1) (ci := 12) (fs := [.null, .null, .int 0, .int 0, .int 0, .int 0, .int 0, .int 0, .int 0, .int 0, .long 0, .null, .null, .null, .null, .null, .null, .null, .null, .null, .null, .null, .null, .null, .null, .null, .null, .null, .null, .null, .null, .null, .null, .null, .null, .null, .null, .null, .null, .null, .null, .null, .null, .int 0, .int 0, .int 0, .int 0, .int 0, .int 0, .int 0, .int 0, .int 0, .null, .null, .int 0, .int 0, .null, .null, .null, .null, .null, .null, .null, .null, .null, .null, .int 0, .int 0, .int 0, .int 0, .int 0, .int 0, .int 0, .int 0, .int 0, .int 0, .int 0, .int 0, .null, .null, .null, .null, .null, .int 0, .int 0, .null, .null]) (C := RX12) (T := TX12) (N := 87) hx hb hT inF_X12 tyX12 tyX12_ok hown (hT _ bw_1435) (hT _ bw_1429) (hT _ bw_840) hK.1 hP hD hS hA rfl (by decide +kernel) (by decide) (by decide) dL_law_8 (fun q_2 H hP hD hS => ?_)
  refine W.widen (k := 423) (n := 26494) (by decide) (by decide) ?_
  have hP : va_P g.1 vwCl ([(q_2, .inr (12, [.null, .null, .int 0, .int 0, .int 0, .int 0, .int 0, .int 0, .int 0, .int 0, .long 0, .null, .null, .null, .null, .null, .null, .null, .null, .null, .null, .null, .null, .null, .null, .null, .null, .null, .null, .null, .null, .null, .null, .null, .null, .null, .null, .null, .null, .null, .null, .null, .null, .int 0, .int 0, .int 0, .int 0, .int 0, .int 0, .int 0, .int 0, .int 0, .null, .null, .int 0, .int 0, .null, .null, .null, .null, .null, .null, .null, .null, .null, .null, .int 0, .int 0, .int 0, .int 0, .int 0, .int 0, .int 0, .int 0, .int 0, .int 0, .int 0, .int 0, .null, .null, .null, .null, .null, .int 0, .int 0, .null, .null]))] ++ wX g u) H := P_perm List.perm_append_comm hP
  have hD : va_D A ([(q_2, .inr (12, [.null, .null, .int 0, .int 0, .int 0, .int 0, .int 0, .int 0, .int 0, .int 0, .long 0, .null, .null, .null, .null, .null, .null, .null, .null, .null, .null, .null, .null, .null, .null, .null, .null, .null, .null, .null, .null, .null, .null, .null, .null, .null, .null, .null, .null, .null, .null, .null, .null, .int 0, .int 0, .int 0, .int 0, .int 0, .int 0, .int 0, .int 0, .int 0, .null, .null, .int 0, .int 0, .null, .null, .null, .null, .null, .null, .null, .null, .null, .null, .int 0, .int 0, .int 0, .int 0, .int 0, .int 0, .int 0, .int 0, .int 0, .int 0, .int 0, .int 0, .null, .null, .null, .null, .null, .int 0, .int 0, .null, .null]))] ++ wX g u) := D_perm List.perm_append_comm hD
  refine lv_dup hx hb dL_law_11 rfl ?_
  refine k_vT (T := wX g u) (wr := []) (k_I (n := 0) ⟨hx, hb, hml, hown, hT⟩ hK hP hD [0] rfl (by decide) (m_init l g H.size q_2) (gI bw_1397) bw_1436 bw_1437 bw_1438 rfl rfl rfl (by decide +kernel) ⟨by decide, by decide⟩ (fun _ _ _ _ _ => trivial) (fun _ _ _ => trivial) rfl rfl hl.1 (Nat.le_of_ble_eq_true rfl) dL_law_12 ⟨by decide, by decide⟩) hP hD hS hA [0] [] rfl rfl (by decide) (by decide) (fun v H locs hw hP hD hS => ?_)
  refine W.widen (k := 476) (n := 78636) (by decide) (by decide) ?_
  obtain ⟨hv, hev, htv⟩ := hw
  have hP : va_P g.1 vwCl (wX g u ++ wM g v) H := P_perm List.perm_append_comm hP
  have hD : va_D A (wX g u ++ wM g v) := D_perm List.perm_append_comm hD
  refine p_tr (x := (v.1 0)) (by rw [hev]) ?_
  refine lv_astore_n (lv' := [(2, .ref (v.1 0)), (1, .ref (u.1 0)), (0, .ref b)]) hx hb dL_law_15 rfl hl (by decide) rfl (fun ls hl => ?_)
  refine lv_iconst (v := 0) hx hb dL_law_16 (by decide) ?_
  refine lv_istore_n (lv' := [(3, .int 0), (2, .ref (v.1 0)), (1, .ref (u.1 0)), (0, .ref b)]) hx hb dL_law_17 rfl hl (by decide) rfl (fun ls hl => ?_)
  refine k_floop 18 (fun n H locs ls => ∃ (u : XRec) (v : MRec) (i : Int32), XOk u ∧ MOk v ∧ (u.2.1 35) = (v.2.1 32) ∧ (0 ≤ i.toInt ∧ i.toInt ≤ 3072) ∧ 3072 - i.toInt ≤ (n : Int) ∧ va_P g.1 vwCl (wX g u ++ wM g v) H ∧ va_D A (wX g u ++ wM g v) ∧ va_S A s.heap H locs ∧ lv_has ls 4 [(3, .int i), (2, .ref (v.1 0)), (1, .ref (u.1 0)), (0, .ref b)]) (fun n H locs ls hI ih => ?_) 3072 ⟨u, v, 0, hu, hv, htu.trans htv.symm, by decide, by decide, hP, hD, hS, hl⟩
  obtain ⟨u, v, i, hu, hv, htt, hi0, hm, hP, hD, hS, hl⟩ := hI
  refine lv_iload_n hx hb dL_law_18 rfl (lv_at hl 0 rfl) ?_
  refine lv_aload_n hx hb dL_law_19 rfl (lv_at hl 3 rfl) ?_
  refine va_slen hx hb hXs hbl hbA hS dL_law_20 ?_
  refine lv_topi (fun x_3 ex_3 => ?_)
  have fx_3 : x_3.toInt = L := by rw [ex_3]; exact nI_toInt (by omega)
  refine lv_bipush (v := 6) hx hb dL_law_21 (by decide) ?_
  refine lv_isub hx hb dL_law_23 ?_
  refine lv_topi (fun x_4 ex_4 => ?_)
  have fx_4 : x_4.toInt = x_3.toInt - 6 := by rw [ex_4]; exact I_sub rfl (by decide : (6 : Int32).toInt = 6) (by omega) (by omega)
  refine lv_icmp_gt (tgt := 1223) hx hb dL_law_24 (by decide) (fun c_5 => ?_) (fun c_5 => ?_)
  · have f_6 := E_lt (rfl : x_4.toInt = _) (rfl : i.toInt = _) c_5
    refine lv_iconst (v := 1) hx hb dL_law_1223 (by decide) ?_
    refine va_forget (fun q hq => by have h9 := hS.2.2 q hq; rw [hAe] at h9; exact h9) ?_
    refine W.widen (k := 600000) (n := 7302249) (by decide) (by decide) ?_
    exact lw_ret hx hb hr hlocks dL_law_1224
  · have f_7 := E_nlt (rfl : x_4.toInt = _) (rfl : i.toInt = _) c_5
    refine lv_aload_n hx hb dL_law_27 rfl (lv_at hl 3 rfl) ?_
    refine lv_iload_n hx hb dL_law_28 rfl (lv_at hl 0 rfl) ?_
    refine va_sld hx hb hXs hbl hbA hS (i := i) (vp_in_iff.mpr (by omega)) dL_law_29 ?_
    refine lv_topi (fun x_8 ex_8 => ?_)
    refine lv_bipush (v := 63) hx hb dL_law_30 (by decide) ?_
    refine lv_iand hx hb dL_law_32 ?_
    refine lv_topi (fun x_9 ex_9 => ?_)
    have fx_9 : 0 ≤ x_9.toInt ∧ x_9.toInt ≤ 63 := by rw [ex_9]; exact I_and (by decide) (by decide)
    rcases tsplit x_9 37 (by decide) with h_10 | ⟨j, hj, eh_10⟩
    · refine lv_tableOut (tgt := 1217) hx hb dL_law_33 (by omega) (by decide) ?_
      obtain ⟨x_11, ex_11⟩ : ∃ y : Int32, y = i + 6 := ⟨_, rfl⟩
      have fx_11 : x_11.toInt = i.toInt + 6 := by rw [ex_11]; exact I_add rfl (by decide) (by omega) (by omega)
      refine lv_iinc (v := x_11) (lv' := [(3, .int x_11), (2, .ref (v.1 0)), (1, .ref (u.1 0)), (0, .ref b)]) hx hb dL_law_1217 hl (k := 0) rfl (by rw [ex_11]; rfl) (by decide) rfl (fun ls hl => ?_)
      refine lv_goto (tgt := 18) hx hb dL_law_1220 (by decide) ?_
      exact ih (n - 1) (by omega) H locs ls ⟨u, v, x_11, hu, hv, htt, by omega, by omega, hP, hD, hS, lv_sub hl [0, 1, 2, 3] rfl⟩
    · rcases (show j = 0 ∨ j = 1 ∨ j = 2 ∨ j = 3 ∨ j = 4 ∨ j = 5 ∨ j = 6 ∨ j = 7 ∨ j = 8 ∨ j = 9 ∨ j = 10 ∨ j = 11 ∨ j = 12 ∨ j = 13 ∨ j = 14 ∨ j = 15 ∨ j = 16 ∨ j = 17 ∨ j = 18 ∨ j = 19 ∨ j = 20 ∨ j = 21 ∨ j = 22 ∨ j = 23 ∨ j = 24 ∨ j = 25 ∨ j = 26 ∨ j = 27 ∨ j = 28 ∨ j = 29 ∨ j = 30 ∨ j = 31 ∨ j = 32 ∨ j = 33 ∨ j = 34 ∨ j = 35 ∨ j = 36 by omega) with rfl | rfl | rfl | rfl | rfl | rfl | rfl | rfl | rfl | rfl | rfl | rfl | rfl | rfl | rfl | rfl | rfl | rfl | rfl | rfl | rfl | rfl | rfl | rfl | rfl | rfl | rfl | rfl | rfl | rfl | rfl | rfl | rfl | rfl | rfl | rfl | rfl
      · obtain rfl : x_9 = 0 := eh_10
        refine lv_tableIn (tgt := 196) hx hb dL_law_33 (by decide) (by decide) (off := 163) (by decide) (by decide) ?_
        refine lv_aload_n hx hb dL_law_196 rfl (lv_at hl 2 rfl) ?_
        refine lv_aload_n hx hb dL_law_197 rfl (lv_at hl 3 rfl) ?_
        refine lv_iload_n hx hb dL_law_198 rfl (lv_at hl 0 rfl) ?_
        refine lv_iconst (v := 1) hx hb dL_law_199 (by decide) ?_
        refine lv_iadd hx hb dL_law_200 ?_
        refine lv_topi (fun x_12 ex_12 => ?_)
        have fx_12 : x_12.toInt = i.toInt + 1 := by rw [ex_12]; exact I_add rfl (by decide : (1 : Int32).toInt = 1) (by omega) (by omega)
        refine va_sld hx hb hXs hbl hbA hS (i := x_12) (vp_in_iff.mpr (by omega)) dL_law_201 ?_
        refine lv_topi (fun x_13 ex_13 => ?_)
        refine lv_aload_n hx hb dL_law_202 rfl (lv_at hl 3 rfl) ?_
        refine lv_iload_n hx hb dL_law_203 rfl (lv_at hl 0 rfl) ?_
        refine lv_iconst (v := 2) hx hb dL_law_204 (by decide) ?_
        refine lv_iadd hx hb dL_law_205 ?_
        refine lv_topi (fun x_14 ex_14 => ?_)
        have fx_14 : x_14.toInt = i.toInt + 2 := by rw [ex_14]; exact I_add rfl (by decide : (2 : Int32).toInt = 2) (by omega) (by omega)
        refine va_sld hx hb hXs hbl hbA hS (i := x_14) (vp_in_iff.mpr (by omega)) dL_law_206 ?_
        refine lv_topi (fun x_15 ex_15 => ?_)
        refine lv_aload_n hx hb dL_law_207 rfl (lv_at hl 3 rfl) ?_
        refine lv_iload_n hx hb dL_law_208 rfl (lv_at hl 0 rfl) ?_
        refine lv_iconst (v := 3) hx hb dL_law_209 (by decide) ?_
        refine lv_iadd hx hb dL_law_210 ?_
        refine lv_topi (fun x_16 ex_16 => ?_)
        have fx_16 : x_16.toInt = i.toInt + 3 := by rw [ex_16]; exact I_add rfl (by decide : (3 : Int32).toInt = 3) (by omega) (by omega)
        refine va_sld hx hb hXs hbl hbA hS (i := x_16) (vp_in_iff.mpr (by omega)) dL_law_211 ?_
        refine lv_topi (fun x_17 ex_17 => ?_)
        refine lv_aload_n hx hb dL_law_212 rfl (lv_at hl 3 rfl) ?_
        refine lv_iload_n hx hb dL_law_213 rfl (lv_at hl 0 rfl) ?_
        refine lv_iconst (v := 4) hx hb dL_law_214 (by decide) ?_
        refine lv_iadd hx hb dL_law_215 ?_
        refine lv_topi (fun x_18 ex_18 => ?_)
        have fx_18 : x_18.toInt = i.toInt + 4 := by rw [ex_18]; exact I_add rfl (by decide : (4 : Int32).toInt = 4) (by omega) (by omega)
        refine va_sld hx hb hXs hbl hbA hS (i := x_18) (vp_in_iff.mpr (by omega)) dL_law_216 ?_
        refine lv_topi (fun x_19 ex_19 => ?_)
        refine lv_aload_n hx hb dL_law_217 rfl (lv_at hl 3 rfl) ?_
        refine lv_iload_n hx hb dL_law_218 rfl (lv_at hl 0 rfl) ?_
        refine lv_iconst (v := 5) hx hb dL_law_219 (by decide) ?_
        refine lv_iadd hx hb dL_law_220 ?_
        refine lv_topi (fun x_20 ex_20 => ?_)
        have fx_20 : x_20.toInt = i.toInt + 5 := by rw [ex_20]; exact I_add rfl (by decide : (5 : Int32).toInt = 5) (by omega) (by omega)
        refine va_sld hx hb hXs hbl hbA hS (i := x_20) (vp_in_iff.mpr (by omega)) dL_law_221 ?_
        refine lv_topi (fun x_21 ex_21 => ?_)
        refine k_iW (k_VW (n := 5) ⟨hx, hb, hml, hown, hT⟩ hK hP hD (lift_l (X' := nX) (wr := wM g v) (xL_feed l g H.size u hu x_13 x_15 x_17 x_19 x_21) (fun _ _ _ _ _ _ => trivial)) (gV bw_1439 bw_1440 bw_1441 bw_395 bw_396) rfl rfl (by decide +kernel) ⟨by decide, by decide⟩ (ci := 11) rfl (List.mem_append_left _ (List.mem_append_left _ List.mem_cons_self)) (fun _ _ _ _ _ => trivial) (fun _ _ _ => trivial) rfl rfl hl.1 (Nat.le_of_ble_eq_true rfl) dL_law_222 ⟨by decide, by decide⟩) hD hS hA (fun r_22 u_23 H locs hw hP hD hS => ?_)
        obtain ⟨hu_23, heu_23, htu_23⟩ := hw
        have hl : lv_has ls 4 [(3, .int i), (2, .ref (v.1 0)), (1, .ref (u_23.1 0)), (0, .ref b)] := by rw [heu_23]; exact hl
        refine lv_pop hx hb dL_law_225 rfl ?_
        refine lv_aload_n hx hb dL_law_226 rfl (lv_at hl 1 rfl) ?_
        refine lv_aload_n hx hb dL_law_227 rfl (lv_at hl 3 rfl) ?_
        refine lv_iload_n hx hb dL_law_228 rfl (lv_at hl 0 rfl) ?_
        refine lv_iconst (v := 1) hx hb dL_law_229 (by decide) ?_
        refine lv_iadd hx hb dL_law_230 ?_
        refine lv_topi (fun x_24 ex_24 => ?_)
        have fx_24 : x_24.toInt = i.toInt + 1 := by rw [ex_24]; exact I_add rfl (by decide : (1 : Int32).toInt = 1) (by omega) (by omega)
        refine va_sld hx hb hXs hbl hbA hS (i := x_24) (vp_in_iff.mpr (by omega)) dL_law_231 ?_
        refine lv_topi (fun x_25 ex_25 => ?_)
        refine lv_aload_n hx hb dL_law_232 rfl (lv_at hl 3 rfl) ?_
        refine lv_iload_n hx hb dL_law_233 rfl (lv_at hl 0 rfl) ?_
        refine lv_iconst (v := 2) hx hb dL_law_234 (by decide) ?_
        refine lv_iadd hx hb dL_law_235 ?_
        refine lv_topi (fun x_26 ex_26 => ?_)
        have fx_26 : x_26.toInt = i.toInt + 2 := by rw [ex_26]; exact I_add rfl (by decide : (2 : Int32).toInt = 2) (by omega) (by omega)
        refine va_sld hx hb hXs hbl hbA hS (i := x_26) (vp_in_iff.mpr (by omega)) dL_law_236 ?_
        refine lv_topi (fun x_27 ex_27 => ?_)
        refine lv_aload_n hx hb dL_law_237 rfl (lv_at hl 3 rfl) ?_
        refine lv_iload_n hx hb dL_law_238 rfl (lv_at hl 0 rfl) ?_
        refine lv_iconst (v := 3) hx hb dL_law_239 (by decide) ?_
        refine lv_iadd hx hb dL_law_240 ?_
        refine lv_topi (fun x_28 ex_28 => ?_)
        have fx_28 : x_28.toInt = i.toInt + 3 := by rw [ex_28]; exact I_add rfl (by decide : (3 : Int32).toInt = 3) (by omega) (by omega)
        refine va_sld hx hb hXs hbl hbA hS (i := x_28) (vp_in_iff.mpr (by omega)) dL_law_241 ?_
        refine lv_topi (fun x_29 ex_29 => ?_)
        refine lv_aload_n hx hb dL_law_242 rfl (lv_at hl 3 rfl) ?_
        refine lv_iload_n hx hb dL_law_243 rfl (lv_at hl 0 rfl) ?_
        refine lv_iconst (v := 4) hx hb dL_law_244 (by decide) ?_
        refine lv_iadd hx hb dL_law_245 ?_
        refine lv_topi (fun x_30 ex_30 => ?_)
        have fx_30 : x_30.toInt = i.toInt + 4 := by rw [ex_30]; exact I_add rfl (by decide : (4 : Int32).toInt = 4) (by omega) (by omega)
        refine va_sld hx hb hXs hbl hbA hS (i := x_30) (vp_in_iff.mpr (by omega)) dL_law_246 ?_
        refine lv_topi (fun x_31 ex_31 => ?_)
        refine lv_aload_n hx hb dL_law_247 rfl (lv_at hl 3 rfl) ?_
        refine lv_iload_n hx hb dL_law_248 rfl (lv_at hl 0 rfl) ?_
        refine lv_iconst (v := 5) hx hb dL_law_249 (by decide) ?_
        refine lv_iadd hx hb dL_law_250 ?_
        refine lv_topi (fun x_32 ex_32 => ?_)
        have fx_32 : x_32.toInt = i.toInt + 5 := by rw [ex_32]; exact I_add rfl (by decide : (5 : Int32).toInt = 5) (by omega) (by omega)
        refine va_sld hx hb hXs hbl hbA hS (i := x_32) (vp_in_iff.mpr (by omega)) dL_law_251 ?_
        refine lv_topi (fun x_33 ex_33 => ?_)
        refine k_iW (k_VW (n := 5) ⟨hx, hb, hml, hown, hT⟩ hK hP hD (lift_r (X' := nX) (wr := wX g u_23) (mL_feed l g H.size v hv x_25 x_27 x_29 x_31 x_33) (fun _ _ _ _ _ _ => trivial)) (gV bw_1442 bw_1443 bw_1444 bw_840 bw_1032) rfl rfl (by decide +kernel) ⟨by decide, by decide⟩ (ci := 12) rfl (List.mem_append_right _ List.mem_cons_self) (fun _ _ _ _ _ => trivial) (fun _ _ _ => trivial) rfl rfl hl.1 (Nat.le_of_ble_eq_true rfl) dL_law_252 ⟨by decide, by decide⟩) hD hS hA (fun r_34 v_35 H locs hw hP hD hS => ?_)
        obtain ⟨hv_35, hev_35, htv_35⟩ := hw
        have hl : lv_has ls 4 [(3, .int i), (2, .ref (v_35.1 0)), (1, .ref (u_23.1 0)), (0, .ref b)] := by rw [hev_35]; exact hl
        refine lv_pop hx hb dL_law_255 rfl ?_
        refine lv_goto (tgt := 1217) hx hb dL_law_256 (by decide) ?_
        obtain ⟨x_36, ex_36⟩ : ∃ y : Int32, y = i + 6 := ⟨_, rfl⟩
        have fx_36 : x_36.toInt = i.toInt + 6 := by rw [ex_36]; exact I_add rfl (by decide) (by omega) (by omega)
        refine lv_iinc (v := x_36) (lv' := [(3, .int x_36), (2, .ref (v_35.1 0)), (1, .ref (u_23.1 0)), (0, .ref b)]) hx hb dL_law_1217 hl (k := 0) rfl (by rw [ex_36]; rfl) (by decide) rfl (fun ls hl => ?_)
        refine lv_goto (tgt := 18) hx hb dL_law_1220 (by decide) ?_
        exact ih (n - 1) (by omega) H locs ls ⟨u_23, v_35, x_36, hu_23, hv_35, (htu_23.trans (htt.trans htv_35.symm)), by omega, by omega, hP, hD, hS, lv_sub hl [0, 1, 2, 3] rfl⟩
      · obtain rfl : x_9 = 1 := eh_10
        refine lv_tableIn (tgt := 259) hx hb dL_law_33 (by decide) (by decide) (off := 226) (by decide) (by decide) ?_
        refine lv_aload_n hx hb dL_law_259 rfl (lv_at hl 2 rfl) ?_
        refine lv_aload_n hx hb dL_law_260 rfl (lv_at hl 3 rfl) ?_
        refine lv_iload_n hx hb dL_law_261 rfl (lv_at hl 0 rfl) ?_
        refine lv_iconst (v := 1) hx hb dL_law_262 (by decide) ?_
        refine lv_iadd hx hb dL_law_263 ?_
        refine lv_topi (fun x_37 ex_37 => ?_)
        have fx_37 : x_37.toInt = i.toInt + 1 := by rw [ex_37]; exact I_add rfl (by decide : (1 : Int32).toInt = 1) (by omega) (by omega)
        refine va_sld hx hb hXs hbl hbA hS (i := x_37) (vp_in_iff.mpr (by omega)) dL_law_264 ?_
        refine lv_topi (fun x_38 ex_38 => ?_)
        refine k_iW (k_VW (n := 1) ⟨hx, hb, hml, hown, hT⟩ hK hP hD (lift_l (X' := nX) (wr := wM g v) (xL_end l g H.size u hu x_38) (fun _ _ _ _ _ _ => trivial)) (gV bw_1445 bw_1446 bw_1447 bw_395 bw_357) rfl rfl (by decide +kernel) ⟨by decide, by decide⟩ (ci := 11) rfl (List.mem_append_left _ (List.mem_append_left _ List.mem_cons_self)) (fun _ _ _ _ _ => trivial) (fun _ _ _ => trivial) rfl rfl hl.1 (Nat.le_of_ble_eq_true rfl) dL_law_265 ⟨by decide, by decide⟩) hD hS hA (fun r_39 u_40 H locs hw hP hD hS => ?_)
        obtain ⟨hu_40, heu_40, htu_40⟩ := hw
        have hl : lv_has ls 4 [(3, .int i), (2, .ref (v.1 0)), (1, .ref (u_40.1 0)), (0, .ref b)] := by rw [heu_40]; exact hl
        refine lv_pop hx hb dL_law_268 rfl ?_
        refine lv_aload_n hx hb dL_law_269 rfl (lv_at hl 1 rfl) ?_
        refine lv_aload_n hx hb dL_law_270 rfl (lv_at hl 3 rfl) ?_
        refine lv_iload_n hx hb dL_law_271 rfl (lv_at hl 0 rfl) ?_
        refine lv_iconst (v := 1) hx hb dL_law_272 (by decide) ?_
        refine lv_iadd hx hb dL_law_273 ?_
        refine lv_topi (fun x_41 ex_41 => ?_)
        have fx_41 : x_41.toInt = i.toInt + 1 := by rw [ex_41]; exact I_add rfl (by decide : (1 : Int32).toInt = 1) (by omega) (by omega)
        refine va_sld hx hb hXs hbl hbA hS (i := x_41) (vp_in_iff.mpr (by omega)) dL_law_274 ?_
        refine lv_topi (fun x_42 ex_42 => ?_)
        refine k_iW (k_VW (n := 1) ⟨hx, hb, hml, hown, hT⟩ hK hP hD (lift_r (X' := nX) (wr := wX g u_40) (mL_end l g H.size v hv x_42) (fun _ _ _ _ _ _ => trivial)) (gV bw_1448 bw_1449 bw_1450 bw_840 bw_1033) rfl rfl (by decide +kernel) ⟨by decide, by decide⟩ (ci := 12) rfl (List.mem_append_right _ List.mem_cons_self) (fun _ _ _ _ _ => trivial) (fun _ _ _ => trivial) rfl rfl hl.1 (Nat.le_of_ble_eq_true rfl) dL_law_275 ⟨by decide, by decide⟩) hD hS hA (fun r_43 v_44 H locs hw hP hD hS => ?_)
        obtain ⟨hv_44, hev_44, htv_44⟩ := hw
        have hl : lv_has ls 4 [(3, .int i), (2, .ref (v_44.1 0)), (1, .ref (u_40.1 0)), (0, .ref b)] := by rw [hev_44]; exact hl
        refine lv_pop hx hb dL_law_278 rfl ?_
        refine lv_goto (tgt := 1217) hx hb dL_law_279 (by decide) ?_
        obtain ⟨x_45, ex_45⟩ : ∃ y : Int32, y = i + 6 := ⟨_, rfl⟩
        have fx_45 : x_45.toInt = i.toInt + 6 := by rw [ex_45]; exact I_add rfl (by decide) (by omega) (by omega)
        refine lv_iinc (v := x_45) (lv' := [(3, .int x_45), (2, .ref (v_44.1 0)), (1, .ref (u_40.1 0)), (0, .ref b)]) hx hb dL_law_1217 hl (k := 0) rfl (by rw [ex_45]; rfl) (by decide) rfl (fun ls hl => ?_)
        refine lv_goto (tgt := 18) hx hb dL_law_1220 (by decide) ?_
        exact ih (n - 1) (by omega) H locs ls ⟨u_40, v_44, x_45, hu_40, hv_44, (htu_40.trans (htt.trans htv_44.symm)), by omega, by omega, hP, hD, hS, lv_sub hl [0, 1, 2, 3] rfl⟩
      · obtain rfl : x_9 = 2 := eh_10
        refine lv_tableIn (tgt := 282) hx hb dL_law_33 (by decide) (by decide) (off := 249) (by decide) (by decide) ?_
        refine lv_aload_n hx hb dL_law_282 rfl (lv_at hl 2 rfl) ?_
        refine k_iW (k_VW (n := 0) ⟨hx, hb, hml, hown, hT⟩ hK hP hD (lift_l (X' := sX g.2.2.2.2.2.2.2 11 aW fw (va_A (wX g u ++ wM g v) H.size)) (wr := wM g v) (xL_code l g H.size u hu aW fw) (fun U q1 q2 q3 q4 q5 => sE.narrow q5 (A_sub (wr := wM g v) (List.Perm.refl _)))) (gV bw_1451 bw_1452 bw_1453 bw_395 bw_814) rfl rfl (by decide +kernel) ⟨by decide, by decide⟩ (ci := 11) rfl (List.mem_append_left _ (List.mem_append_left _ List.mem_cons_self)) sX.calling (sE.go hX2 hS (fun q9 h9 => h9.elim (fun ⟨k9, e9, z9⟩ => hD.2 k9 _ z9) (fun z9 => hA q9 (Nat.le_trans hS.1 z9)))) rfl rfl hl.1 (Nat.le_of_ble_eq_true rfl) dL_law_283 ⟨by decide, by decide⟩) hD hS hA (fun r_46 u_47 H locs hw hP hD hS => ?_)
        obtain ⟨hu_47, heu_47, htu_47⟩ := hw
        have hl : lv_has ls 4 [(3, .int i), (2, .ref (v.1 0)), (1, .ref (u_47.1 0)), (0, .ref b)] := by rw [heu_47]; exact hl
        refine lv_pop hx hb dL_law_286 rfl ?_
        refine lv_aload_n hx hb dL_law_287 rfl (lv_at hl 1 rfl) ?_
        refine k_iW (k_VW (n := 0) ⟨hx, hb, hml, hown, hT⟩ hK hP hD (lift_r (X' := nX) (wr := wX g u_47) (mL_code l g H.size v hv) (fun _ _ _ _ _ _ => trivial)) (gV bw_1454 bw_1455 bw_1456 bw_840 bw_1322) rfl rfl (by decide +kernel) ⟨by decide, by decide⟩ (ci := 12) rfl (List.mem_append_right _ List.mem_cons_self) (fun _ _ _ _ _ => trivial) (fun _ _ _ => trivial) rfl rfl hl.1 (Nat.le_of_ble_eq_true rfl) dL_law_288 ⟨by decide, by decide⟩) hD hS hA (fun r_48 v_49 H locs hw hP hD hS => ?_)
        obtain ⟨hv_49, hev_49, htv_49⟩ := hw
        have hl : lv_has ls 4 [(3, .int i), (2, .ref (v_49.1 0)), (1, .ref (u_47.1 0)), (0, .ref b)] := by rw [hev_49]; exact hl
        refine lv_pop hx hb dL_law_291 rfl ?_
        refine lv_goto (tgt := 1217) hx hb dL_law_292 (by decide) ?_
        obtain ⟨x_50, ex_50⟩ : ∃ y : Int32, y = i + 6 := ⟨_, rfl⟩
        have fx_50 : x_50.toInt = i.toInt + 6 := by rw [ex_50]; exact I_add rfl (by decide) (by omega) (by omega)
        refine lv_iinc (v := x_50) (lv' := [(3, .int x_50), (2, .ref (v_49.1 0)), (1, .ref (u_47.1 0)), (0, .ref b)]) hx hb dL_law_1217 hl (k := 0) rfl (by rw [ex_50]; rfl) (by decide) rfl (fun ls hl => ?_)
        refine lv_goto (tgt := 18) hx hb dL_law_1220 (by decide) ?_
        exact ih (n - 1) (by omega) H locs ls ⟨u_47, v_49, x_50, hu_47, hv_49, (htu_47.trans (htt.trans htv_49.symm)), by omega, by omega, hP, hD, hS, lv_sub hl [0, 1, 2, 3] rfl⟩
      · obtain rfl : x_9 = 3 := eh_10
        refine lv_tableIn (tgt := 295) hx hb dL_law_33 (by decide) (by decide) (off := 262) (by decide) (by decide) ?_
        refine lv_aload_n hx hb dL_law_295 rfl (lv_at hl 2 rfl) ?_
        refine lv_aload_n hx hb dL_law_296 rfl (lv_at hl 3 rfl) ?_
        refine lv_iload_n hx hb dL_law_297 rfl (lv_at hl 0 rfl) ?_
        refine lv_iconst (v := 1) hx hb dL_law_298 (by decide) ?_
        refine lv_iadd hx hb dL_law_299 ?_
        refine lv_topi (fun x_51 ex_51 => ?_)
        have fx_51 : x_51.toInt = i.toInt + 1 := by rw [ex_51]; exact I_add rfl (by decide : (1 : Int32).toInt = 1) (by omega) (by omega)
        refine va_sld hx hb hXs hbl hbA hS (i := x_51) (vp_in_iff.mpr (by omega)) dL_law_300 ?_
        refine lv_topi (fun x_52 ex_52 => ?_)
        refine k_iW (k_VW (n := 1) ⟨hx, hb, hml, hown, hT⟩ hK hP hD (lift_l (X' := nX) (wr := wM g v) (xL_fault l g H.size u hu x_52) (fun _ _ _ _ _ _ => trivial)) (gV bw_1457 bw_1458 bw_1459 bw_395 bw_361) rfl rfl (by decide +kernel) ⟨by decide, by decide⟩ (ci := 11) rfl (List.mem_append_left _ (List.mem_append_left _ List.mem_cons_self)) (fun _ _ _ _ _ => trivial) (fun _ _ _ => trivial) rfl rfl hl.1 (Nat.le_of_ble_eq_true rfl) dL_law_301 ⟨by decide, by decide⟩) hD hS hA (fun r_53 u_54 H locs hw hP hD hS => ?_)
        obtain ⟨hu_54, heu_54, htu_54⟩ := hw
        have hl : lv_has ls 4 [(3, .int i), (2, .ref (v.1 0)), (1, .ref (u_54.1 0)), (0, .ref b)] := by rw [heu_54]; exact hl
        refine lv_pop hx hb dL_law_304 rfl ?_
        refine lv_aload_n hx hb dL_law_305 rfl (lv_at hl 1 rfl) ?_
        refine lv_aload_n hx hb dL_law_306 rfl (lv_at hl 3 rfl) ?_
        refine lv_iload_n hx hb dL_law_307 rfl (lv_at hl 0 rfl) ?_
        refine lv_iconst (v := 1) hx hb dL_law_308 (by decide) ?_
        refine lv_iadd hx hb dL_law_309 ?_
        refine lv_topi (fun x_55 ex_55 => ?_)
        have fx_55 : x_55.toInt = i.toInt + 1 := by rw [ex_55]; exact I_add rfl (by decide : (1 : Int32).toInt = 1) (by omega) (by omega)
        refine va_sld hx hb hXs hbl hbA hS (i := x_55) (vp_in_iff.mpr (by omega)) dL_law_310 ?_
        refine lv_topi (fun x_56 ex_56 => ?_)
        refine k_iW (k_VW (n := 1) ⟨hx, hb, hml, hown, hT⟩ hK hP hD (lift_r (X' := nX) (wr := wX g u_54) (mL_fault l g H.size v hv x_56) (fun _ _ _ _ _ _ => trivial)) (gV bw_1460 bw_1461 bw_1462 bw_840 bw_822) rfl rfl (by decide +kernel) ⟨by decide, by decide⟩ (ci := 12) rfl (List.mem_append_right _ List.mem_cons_self) (fun _ _ _ _ _ => trivial) (fun _ _ _ => trivial) rfl rfl hl.1 (Nat.le_of_ble_eq_true rfl) dL_law_311 ⟨by decide, by decide⟩) hD hS hA (fun r_57 v_58 H locs hw hP hD hS => ?_)
        obtain ⟨hv_58, hev_58, htv_58⟩ := hw
        have hl : lv_has ls 4 [(3, .int i), (2, .ref (v_58.1 0)), (1, .ref (u_54.1 0)), (0, .ref b)] := by rw [hev_58]; exact hl
        refine lv_pop hx hb dL_law_314 rfl ?_
        refine lv_goto (tgt := 1217) hx hb dL_law_315 (by decide) ?_
        obtain ⟨x_59, ex_59⟩ : ∃ y : Int32, y = i + 6 := ⟨_, rfl⟩
        have fx_59 : x_59.toInt = i.toInt + 6 := by rw [ex_59]; exact I_add rfl (by decide) (by omega) (by omega)
        refine lv_iinc (v := x_59) (lv' := [(3, .int x_59), (2, .ref (v_58.1 0)), (1, .ref (u_54.1 0)), (0, .ref b)]) hx hb dL_law_1217 hl (k := 0) rfl (by rw [ex_59]; rfl) (by decide) rfl (fun ls hl => ?_)
        refine lv_goto (tgt := 18) hx hb dL_law_1220 (by decide) ?_
        exact ih (n - 1) (by omega) H locs ls ⟨u_54, v_58, x_59, hu_54, hv_58, (htu_54.trans (htt.trans htv_58.symm)), by omega, by omega, hP, hD, hS, lv_sub hl [0, 1, 2, 3] rfl⟩
      · obtain rfl : x_9 = 4 := eh_10
        refine lv_tableIn (tgt := 318) hx hb dL_law_33 (by decide) (by decide) (off := 285) (by decide) (by decide) ?_
        refine lv_aload_n hx hb dL_law_318 rfl (lv_at hl 2 rfl) ?_
        refine lv_aload_n hx hb dL_law_319 rfl (lv_at hl 3 rfl) ?_
        refine lv_iload_n hx hb dL_law_320 rfl (lv_at hl 0 rfl) ?_
        refine lv_iconst (v := 1) hx hb dL_law_321 (by decide) ?_
        refine lv_iadd hx hb dL_law_322 ?_
        refine lv_topi (fun x_60 ex_60 => ?_)
        have fx_60 : x_60.toInt = i.toInt + 1 := by rw [ex_60]; exact I_add rfl (by decide : (1 : Int32).toInt = 1) (by omega) (by omega)
        refine va_sld hx hb hXs hbl hbA hS (i := x_60) (vp_in_iff.mpr (by omega)) dL_law_323 ?_
        refine lv_topi (fun x_61 ex_61 => ?_)
        refine lv_aload_n hx hb dL_law_324 rfl (lv_at hl 3 rfl) ?_
        refine lv_iload_n hx hb dL_law_325 rfl (lv_at hl 0 rfl) ?_
        refine lv_iconst (v := 2) hx hb dL_law_326 (by decide) ?_
        refine lv_iadd hx hb dL_law_327 ?_
        refine lv_topi (fun x_62 ex_62 => ?_)
        have fx_62 : x_62.toInt = i.toInt + 2 := by rw [ex_62]; exact I_add rfl (by decide : (2 : Int32).toInt = 2) (by omega) (by omega)
        refine va_sld hx hb hXs hbl hbA hS (i := x_62) (vp_in_iff.mpr (by omega)) dL_law_328 ?_
        refine lv_topi (fun x_63 ex_63 => ?_)
        refine k_iW (k_VW (n := 2) ⟨hx, hb, hml, hown, hT⟩ hK hP hD (lift_l (X' := nX) (wr := wM g v) (xL_man l g H.size u hu x_61 x_63) (fun _ _ _ _ _ _ => trivial)) (gV bw_1463 bw_1464 bw_1465 bw_395 bw_282) rfl rfl (by decide +kernel) ⟨by decide, by decide⟩ (ci := 11) rfl (List.mem_append_left _ (List.mem_append_left _ List.mem_cons_self)) (fun _ _ _ _ _ => trivial) (fun _ _ _ => trivial) rfl rfl hl.1 (Nat.le_of_ble_eq_true rfl) dL_law_329 ⟨by decide, by decide⟩) hD hS hA (fun r_64 u_65 H locs hw hP hD hS => ?_)
        obtain ⟨hu_65, heu_65, htu_65⟩ := hw
        have hl : lv_has ls 4 [(3, .int i), (2, .ref (v.1 0)), (1, .ref (u_65.1 0)), (0, .ref b)] := by rw [heu_65]; exact hl
        refine lv_pop hx hb dL_law_332 rfl ?_
        refine lv_aload_n hx hb dL_law_333 rfl (lv_at hl 1 rfl) ?_
        refine lv_aload_n hx hb dL_law_334 rfl (lv_at hl 3 rfl) ?_
        refine lv_iload_n hx hb dL_law_335 rfl (lv_at hl 0 rfl) ?_
        refine lv_iconst (v := 1) hx hb dL_law_336 (by decide) ?_
        refine lv_iadd hx hb dL_law_337 ?_
        refine lv_topi (fun x_66 ex_66 => ?_)
        have fx_66 : x_66.toInt = i.toInt + 1 := by rw [ex_66]; exact I_add rfl (by decide : (1 : Int32).toInt = 1) (by omega) (by omega)
        refine va_sld hx hb hXs hbl hbA hS (i := x_66) (vp_in_iff.mpr (by omega)) dL_law_338 ?_
        refine lv_topi (fun x_67 ex_67 => ?_)
        refine lv_aload_n hx hb dL_law_339 rfl (lv_at hl 3 rfl) ?_
        refine lv_iload_n hx hb dL_law_340 rfl (lv_at hl 0 rfl) ?_
        refine lv_iconst (v := 2) hx hb dL_law_341 (by decide) ?_
        refine lv_iadd hx hb dL_law_342 ?_
        refine lv_topi (fun x_68 ex_68 => ?_)
        have fx_68 : x_68.toInt = i.toInt + 2 := by rw [ex_68]; exact I_add rfl (by decide : (2 : Int32).toInt = 2) (by omega) (by omega)
        refine va_sld hx hb hXs hbl hbA hS (i := x_68) (vp_in_iff.mpr (by omega)) dL_law_343 ?_
        refine lv_topi (fun x_69 ex_69 => ?_)
        refine k_iW (k_VW (n := 2) ⟨hx, hb, hml, hown, hT⟩ hK hP hD (lift_r (X' := nX) (wr := wX g u_65) (mL_man l g H.size v hv x_67 x_69) (fun _ _ _ _ _ _ => trivial)) (gV bw_1466 bw_1467 bw_1468 bw_840 bw_917) rfl rfl (by decide +kernel) ⟨by decide, by decide⟩ (ci := 12) rfl (List.mem_append_right _ List.mem_cons_self) (fun _ _ _ _ _ => trivial) (fun _ _ _ => trivial) rfl rfl hl.1 (Nat.le_of_ble_eq_true rfl) dL_law_344 ⟨by decide, by decide⟩) hD hS hA (fun r_70 v_71 H locs hw hP hD hS => ?_)
        obtain ⟨hv_71, hev_71, htv_71⟩ := hw
        have hl : lv_has ls 4 [(3, .int i), (2, .ref (v_71.1 0)), (1, .ref (u_65.1 0)), (0, .ref b)] := by rw [hev_71]; exact hl
        refine lv_pop hx hb dL_law_347 rfl ?_
        refine lv_goto (tgt := 1217) hx hb dL_law_348 (by decide) ?_
        obtain ⟨x_72, ex_72⟩ : ∃ y : Int32, y = i + 6 := ⟨_, rfl⟩
        have fx_72 : x_72.toInt = i.toInt + 6 := by rw [ex_72]; exact I_add rfl (by decide) (by omega) (by omega)
        refine lv_iinc (v := x_72) (lv' := [(3, .int x_72), (2, .ref (v_71.1 0)), (1, .ref (u_65.1 0)), (0, .ref b)]) hx hb dL_law_1217 hl (k := 0) rfl (by rw [ex_72]; rfl) (by decide) rfl (fun ls hl => ?_)
        refine lv_goto (tgt := 18) hx hb dL_law_1220 (by decide) ?_
        exact ih (n - 1) (by omega) H locs ls ⟨u_65, v_71, x_72, hu_65, hv_71, (htu_65.trans (htt.trans htv_71.symm)), by omega, by omega, hP, hD, hS, lv_sub hl [0, 1, 2, 3] rfl⟩
      · obtain rfl : x_9 = 5 := eh_10
        refine lv_tableIn (tgt := 351) hx hb dL_law_33 (by decide) (by decide) (off := 318) (by decide) (by decide) ?_
        refine lv_aload_n hx hb dL_law_351 rfl (lv_at hl 2 rfl) ?_
        refine lv_aload_n hx hb dL_law_352 rfl (lv_at hl 3 rfl) ?_
        refine lv_iload_n hx hb dL_law_353 rfl (lv_at hl 0 rfl) ?_
        refine lv_iconst (v := 1) hx hb dL_law_354 (by decide) ?_
        refine lv_iadd hx hb dL_law_355 ?_
        refine lv_topi (fun x_73 ex_73 => ?_)
        have fx_73 : x_73.toInt = i.toInt + 1 := by rw [ex_73]; exact I_add rfl (by decide : (1 : Int32).toInt = 1) (by omega) (by omega)
        refine va_sld hx hb hXs hbl hbA hS (i := x_73) (vp_in_iff.mpr (by omega)) dL_law_356 ?_
        refine lv_topi (fun x_74 ex_74 => ?_)
        refine lv_aload_n hx hb dL_law_357 rfl (lv_at hl 3 rfl) ?_
        refine lv_iload_n hx hb dL_law_358 rfl (lv_at hl 0 rfl) ?_
        refine lv_iconst (v := 2) hx hb dL_law_359 (by decide) ?_
        refine lv_iadd hx hb dL_law_360 ?_
        refine lv_topi (fun x_75 ex_75 => ?_)
        have fx_75 : x_75.toInt = i.toInt + 2 := by rw [ex_75]; exact I_add rfl (by decide : (2 : Int32).toInt = 2) (by omega) (by omega)
        refine va_sld hx hb hXs hbl hbA hS (i := x_75) (vp_in_iff.mpr (by omega)) dL_law_361 ?_
        refine lv_topi (fun x_76 ex_76 => ?_)
        refine k_iW (k_VW (n := 2) ⟨hx, hb, hml, hown, hT⟩ hK hP hD (lift_l (X' := nX) (wr := wM g v) (xL_duel l g H.size u hu x_74 x_76) (fun _ _ _ _ _ _ => trivial)) (gV bw_1469 bw_1470 bw_1471 bw_395 bw_292) rfl rfl (by decide +kernel) ⟨by decide, by decide⟩ (ci := 11) rfl (List.mem_append_left _ (List.mem_append_left _ List.mem_cons_self)) (fun _ _ _ _ _ => trivial) (fun _ _ _ => trivial) rfl rfl hl.1 (Nat.le_of_ble_eq_true rfl) dL_law_362 ⟨by decide, by decide⟩) hD hS hA (fun r_77 u_78 H locs hw hP hD hS => ?_)
        obtain ⟨hu_78, heu_78, htu_78⟩ := hw
        have hl : lv_has ls 4 [(3, .int i), (2, .ref (v.1 0)), (1, .ref (u_78.1 0)), (0, .ref b)] := by rw [heu_78]; exact hl
        refine lv_pop hx hb dL_law_365 rfl ?_
        refine lv_aload_n hx hb dL_law_366 rfl (lv_at hl 1 rfl) ?_
        refine lv_aload_n hx hb dL_law_367 rfl (lv_at hl 3 rfl) ?_
        refine lv_iload_n hx hb dL_law_368 rfl (lv_at hl 0 rfl) ?_
        refine lv_iconst (v := 1) hx hb dL_law_369 (by decide) ?_
        refine lv_iadd hx hb dL_law_370 ?_
        refine lv_topi (fun x_79 ex_79 => ?_)
        have fx_79 : x_79.toInt = i.toInt + 1 := by rw [ex_79]; exact I_add rfl (by decide : (1 : Int32).toInt = 1) (by omega) (by omega)
        refine va_sld hx hb hXs hbl hbA hS (i := x_79) (vp_in_iff.mpr (by omega)) dL_law_371 ?_
        refine lv_topi (fun x_80 ex_80 => ?_)
        refine lv_aload_n hx hb dL_law_372 rfl (lv_at hl 3 rfl) ?_
        refine lv_iload_n hx hb dL_law_373 rfl (lv_at hl 0 rfl) ?_
        refine lv_iconst (v := 2) hx hb dL_law_374 (by decide) ?_
        refine lv_iadd hx hb dL_law_375 ?_
        refine lv_topi (fun x_81 ex_81 => ?_)
        have fx_81 : x_81.toInt = i.toInt + 2 := by rw [ex_81]; exact I_add rfl (by decide : (2 : Int32).toInt = 2) (by omega) (by omega)
        refine va_sld hx hb hXs hbl hbA hS (i := x_81) (vp_in_iff.mpr (by omega)) dL_law_376 ?_
        refine lv_topi (fun x_82 ex_82 => ?_)
        refine k_iW (k_VW (n := 2) ⟨hx, hb, hml, hown, hT⟩ hK hP hD (lift_r (X' := nX) (wr := wX g u_78) (mL_duel l g H.size v hv x_80 x_82) (fun _ _ _ _ _ _ => trivial)) (gV bw_1472 bw_1473 bw_1474 bw_840 bw_918) rfl rfl (by decide +kernel) ⟨by decide, by decide⟩ (ci := 12) rfl (List.mem_append_right _ List.mem_cons_self) (fun _ _ _ _ _ => trivial) (fun _ _ _ => trivial) rfl rfl hl.1 (Nat.le_of_ble_eq_true rfl) dL_law_377 ⟨by decide, by decide⟩) hD hS hA (fun r_83 v_84 H locs hw hP hD hS => ?_)
        obtain ⟨hv_84, hev_84, htv_84⟩ := hw
        have hl : lv_has ls 4 [(3, .int i), (2, .ref (v_84.1 0)), (1, .ref (u_78.1 0)), (0, .ref b)] := by rw [hev_84]; exact hl
        refine lv_pop hx hb dL_law_380 rfl ?_
        refine lv_goto (tgt := 1217) hx hb dL_law_381 (by decide) ?_
        obtain ⟨x_85, ex_85⟩ : ∃ y : Int32, y = i + 6 := ⟨_, rfl⟩
        have fx_85 : x_85.toInt = i.toInt + 6 := by rw [ex_85]; exact I_add rfl (by decide) (by omega) (by omega)
        refine lv_iinc (v := x_85) (lv' := [(3, .int x_85), (2, .ref (v_84.1 0)), (1, .ref (u_78.1 0)), (0, .ref b)]) hx hb dL_law_1217 hl (k := 0) rfl (by rw [ex_85]; rfl) (by decide) rfl (fun ls hl => ?_)
        refine lv_goto (tgt := 18) hx hb dL_law_1220 (by decide) ?_
        exact ih (n - 1) (by omega) H locs ls ⟨u_78, v_84, x_85, hu_78, hv_84, (htu_78.trans (htt.trans htv_84.symm)), by omega, by omega, hP, hD, hS, lv_sub hl [0, 1, 2, 3] rfl⟩
      · obtain rfl : x_9 = 6 := eh_10
        refine lv_tableIn (tgt := 384) hx hb dL_law_33 (by decide) (by decide) (off := 351) (by decide) (by decide) ?_
        refine lv_aload_n hx hb dL_law_384 rfl (lv_at hl 2 rfl) ?_
        refine lv_aload_n hx hb dL_law_385 rfl (lv_at hl 3 rfl) ?_
        refine lv_iload_n hx hb dL_law_386 rfl (lv_at hl 0 rfl) ?_
        refine lv_iconst (v := 1) hx hb dL_law_387 (by decide) ?_
        refine lv_iadd hx hb dL_law_388 ?_
        refine lv_topi (fun x_86 ex_86 => ?_)
        have fx_86 : x_86.toInt = i.toInt + 1 := by rw [ex_86]; exact I_add rfl (by decide : (1 : Int32).toInt = 1) (by omega) (by omega)
        refine va_sld hx hb hXs hbl hbA hS (i := x_86) (vp_in_iff.mpr (by omega)) dL_law_389 ?_
        refine lv_topi (fun x_87 ex_87 => ?_)
        refine lv_aload_n hx hb dL_law_390 rfl (lv_at hl 3 rfl) ?_
        refine lv_iload_n hx hb dL_law_391 rfl (lv_at hl 0 rfl) ?_
        refine lv_iconst (v := 2) hx hb dL_law_392 (by decide) ?_
        refine lv_iadd hx hb dL_law_393 ?_
        refine lv_topi (fun x_88 ex_88 => ?_)
        have fx_88 : x_88.toInt = i.toInt + 2 := by rw [ex_88]; exact I_add rfl (by decide : (2 : Int32).toInt = 2) (by omega) (by omega)
        refine va_sld hx hb hXs hbl hbA hS (i := x_88) (vp_in_iff.mpr (by omega)) dL_law_394 ?_
        refine lv_topi (fun x_89 ex_89 => ?_)
        refine k_iW (k_VW (n := 2) ⟨hx, hb, hml, hown, hT⟩ hK hP hD (lift_l (X' := nX) (wr := wM g v) (xL_reason l g H.size u hu x_87 x_89) (fun _ _ _ _ _ _ => trivial)) (gV bw_1475 bw_1476 bw_1477 bw_395 bw_303) rfl rfl (by decide +kernel) ⟨by decide, by decide⟩ (ci := 11) rfl (List.mem_append_left _ (List.mem_append_left _ List.mem_cons_self)) (fun _ _ _ _ _ => trivial) (fun _ _ _ => trivial) rfl rfl hl.1 (Nat.le_of_ble_eq_true rfl) dL_law_395 ⟨by decide, by decide⟩) hD hS hA (fun r_90 u_91 H locs hw hP hD hS => ?_)
        obtain ⟨hu_91, heu_91, htu_91⟩ := hw
        have hl : lv_has ls 4 [(3, .int i), (2, .ref (v.1 0)), (1, .ref (u_91.1 0)), (0, .ref b)] := by rw [heu_91]; exact hl
        refine lv_pop hx hb dL_law_398 rfl ?_
        refine lv_aload_n hx hb dL_law_399 rfl (lv_at hl 1 rfl) ?_
        refine lv_aload_n hx hb dL_law_400 rfl (lv_at hl 3 rfl) ?_
        refine lv_iload_n hx hb dL_law_401 rfl (lv_at hl 0 rfl) ?_
        refine lv_iconst (v := 1) hx hb dL_law_402 (by decide) ?_
        refine lv_iadd hx hb dL_law_403 ?_
        refine lv_topi (fun x_92 ex_92 => ?_)
        have fx_92 : x_92.toInt = i.toInt + 1 := by rw [ex_92]; exact I_add rfl (by decide : (1 : Int32).toInt = 1) (by omega) (by omega)
        refine va_sld hx hb hXs hbl hbA hS (i := x_92) (vp_in_iff.mpr (by omega)) dL_law_404 ?_
        refine lv_topi (fun x_93 ex_93 => ?_)
        refine lv_aload_n hx hb dL_law_405 rfl (lv_at hl 3 rfl) ?_
        refine lv_iload_n hx hb dL_law_406 rfl (lv_at hl 0 rfl) ?_
        refine lv_iconst (v := 2) hx hb dL_law_407 (by decide) ?_
        refine lv_iadd hx hb dL_law_408 ?_
        refine lv_topi (fun x_94 ex_94 => ?_)
        have fx_94 : x_94.toInt = i.toInt + 2 := by rw [ex_94]; exact I_add rfl (by decide : (2 : Int32).toInt = 2) (by omega) (by omega)
        refine va_sld hx hb hXs hbl hbA hS (i := x_94) (vp_in_iff.mpr (by omega)) dL_law_409 ?_
        refine lv_topi (fun x_95 ex_95 => ?_)
        refine k_iW (k_VW (n := 2) ⟨hx, hb, hml, hown, hT⟩ hK hP hD (lift_r (X' := nX) (wr := wX g u_91) (mL_reason l g H.size v hv x_93 x_95) (fun _ _ _ _ _ _ => trivial)) (gV bw_1478 bw_1479 bw_1480 bw_840 bw_923) rfl rfl (by decide +kernel) ⟨by decide, by decide⟩ (ci := 12) rfl (List.mem_append_right _ List.mem_cons_self) (fun _ _ _ _ _ => trivial) (fun _ _ _ => trivial) rfl rfl hl.1 (Nat.le_of_ble_eq_true rfl) dL_law_410 ⟨by decide, by decide⟩) hD hS hA (fun r_96 v_97 H locs hw hP hD hS => ?_)
        obtain ⟨hv_97, hev_97, htv_97⟩ := hw
        have hl : lv_has ls 4 [(3, .int i), (2, .ref (v_97.1 0)), (1, .ref (u_91.1 0)), (0, .ref b)] := by rw [hev_97]; exact hl
        refine lv_pop hx hb dL_law_413 rfl ?_
        refine lv_goto (tgt := 1217) hx hb dL_law_414 (by decide) ?_
        obtain ⟨x_98, ex_98⟩ : ∃ y : Int32, y = i + 6 := ⟨_, rfl⟩
        have fx_98 : x_98.toInt = i.toInt + 6 := by rw [ex_98]; exact I_add rfl (by decide) (by omega) (by omega)
        refine lv_iinc (v := x_98) (lv' := [(3, .int x_98), (2, .ref (v_97.1 0)), (1, .ref (u_91.1 0)), (0, .ref b)]) hx hb dL_law_1217 hl (k := 0) rfl (by rw [ex_98]; rfl) (by decide) rfl (fun ls hl => ?_)
        refine lv_goto (tgt := 18) hx hb dL_law_1220 (by decide) ?_
        exact ih (n - 1) (by omega) H locs ls ⟨u_91, v_97, x_98, hu_91, hv_97, (htu_91.trans (htt.trans htv_97.symm)), by omega, by omega, hP, hD, hS, lv_sub hl [0, 1, 2, 3] rfl⟩
      · obtain rfl : x_9 = 7 := eh_10
        refine lv_tableIn (tgt := 417) hx hb dL_law_33 (by decide) (by decide) (off := 384) (by decide) (by decide) ?_
        refine lv_aload_n hx hb dL_law_417 rfl (lv_at hl 2 rfl) ?_
        refine lv_aload_n hx hb dL_law_418 rfl (lv_at hl 3 rfl) ?_
        refine lv_iload_n hx hb dL_law_419 rfl (lv_at hl 0 rfl) ?_
        refine lv_iconst (v := 1) hx hb dL_law_420 (by decide) ?_
        refine lv_iadd hx hb dL_law_421 ?_
        refine lv_topi (fun x_99 ex_99 => ?_)
        have fx_99 : x_99.toInt = i.toInt + 1 := by rw [ex_99]; exact I_add rfl (by decide : (1 : Int32).toInt = 1) (by omega) (by omega)
        refine va_sld hx hb hXs hbl hbA hS (i := x_99) (vp_in_iff.mpr (by omega)) dL_law_422 ?_
        refine lv_topi (fun x_100 ex_100 => ?_)
        refine lv_aload_n hx hb dL_law_423 rfl (lv_at hl 3 rfl) ?_
        refine lv_iload_n hx hb dL_law_424 rfl (lv_at hl 0 rfl) ?_
        refine lv_iconst (v := 2) hx hb dL_law_425 (by decide) ?_
        refine lv_iadd hx hb dL_law_426 ?_
        refine lv_topi (fun x_101 ex_101 => ?_)
        have fx_101 : x_101.toInt = i.toInt + 2 := by rw [ex_101]; exact I_add rfl (by decide : (2 : Int32).toInt = 2) (by omega) (by omega)
        refine va_sld hx hb hXs hbl hbA hS (i := x_101) (vp_in_iff.mpr (by omega)) dL_law_427 ?_
        refine lv_topi (fun x_102 ex_102 => ?_)
        refine lv_aload_n hx hb dL_law_428 rfl (lv_at hl 3 rfl) ?_
        refine lv_iload_n hx hb dL_law_429 rfl (lv_at hl 0 rfl) ?_
        refine lv_iconst (v := 3) hx hb dL_law_430 (by decide) ?_
        refine lv_iadd hx hb dL_law_431 ?_
        refine lv_topi (fun x_103 ex_103 => ?_)
        have fx_103 : x_103.toInt = i.toInt + 3 := by rw [ex_103]; exact I_add rfl (by decide : (3 : Int32).toInt = 3) (by omega) (by omega)
        refine va_sld hx hb hXs hbl hbA hS (i := x_103) (vp_in_iff.mpr (by omega)) dL_law_432 ?_
        refine lv_topi (fun x_104 ex_104 => ?_)
        refine k_iW (k_VW (n := 3) ⟨hx, hb, hml, hown, hT⟩ hK hP hD (lift_l (X' := nX) (wr := wM g v) (xL_worth l g H.size u hu x_100 x_102 x_104) (fun _ _ _ _ _ _ => trivial)) (gV bw_1481 bw_1482 bw_1483 bw_395 bw_305) rfl rfl (by decide +kernel) ⟨by decide, by decide⟩ (ci := 11) rfl (List.mem_append_left _ (List.mem_append_left _ List.mem_cons_self)) (fun _ _ _ _ _ => trivial) (fun _ _ _ => trivial) rfl rfl hl.1 (Nat.le_of_ble_eq_true rfl) dL_law_433 ⟨by decide, by decide⟩) hD hS hA (fun r_105 u_106 H locs hw hP hD hS => ?_)
        obtain ⟨hu_106, heu_106, htu_106⟩ := hw
        have hl : lv_has ls 4 [(3, .int i), (2, .ref (v.1 0)), (1, .ref (u_106.1 0)), (0, .ref b)] := by rw [heu_106]; exact hl
        refine lv_pop hx hb dL_law_436 rfl ?_
        refine lv_aload_n hx hb dL_law_437 rfl (lv_at hl 1 rfl) ?_
        refine lv_aload_n hx hb dL_law_438 rfl (lv_at hl 3 rfl) ?_
        refine lv_iload_n hx hb dL_law_439 rfl (lv_at hl 0 rfl) ?_
        refine lv_iconst (v := 1) hx hb dL_law_440 (by decide) ?_
        refine lv_iadd hx hb dL_law_441 ?_
        refine lv_topi (fun x_107 ex_107 => ?_)
        have fx_107 : x_107.toInt = i.toInt + 1 := by rw [ex_107]; exact I_add rfl (by decide : (1 : Int32).toInt = 1) (by omega) (by omega)
        refine va_sld hx hb hXs hbl hbA hS (i := x_107) (vp_in_iff.mpr (by omega)) dL_law_442 ?_
        refine lv_topi (fun x_108 ex_108 => ?_)
        refine lv_aload_n hx hb dL_law_443 rfl (lv_at hl 3 rfl) ?_
        refine lv_iload_n hx hb dL_law_444 rfl (lv_at hl 0 rfl) ?_
        refine lv_iconst (v := 2) hx hb dL_law_445 (by decide) ?_
        refine lv_iadd hx hb dL_law_446 ?_
        refine lv_topi (fun x_109 ex_109 => ?_)
        have fx_109 : x_109.toInt = i.toInt + 2 := by rw [ex_109]; exact I_add rfl (by decide : (2 : Int32).toInt = 2) (by omega) (by omega)
        refine va_sld hx hb hXs hbl hbA hS (i := x_109) (vp_in_iff.mpr (by omega)) dL_law_447 ?_
        refine lv_topi (fun x_110 ex_110 => ?_)
        refine lv_aload_n hx hb dL_law_448 rfl (lv_at hl 3 rfl) ?_
        refine lv_iload_n hx hb dL_law_449 rfl (lv_at hl 0 rfl) ?_
        refine lv_iconst (v := 3) hx hb dL_law_450 (by decide) ?_
        refine lv_iadd hx hb dL_law_451 ?_
        refine lv_topi (fun x_111 ex_111 => ?_)
        have fx_111 : x_111.toInt = i.toInt + 3 := by rw [ex_111]; exact I_add rfl (by decide : (3 : Int32).toInt = 3) (by omega) (by omega)
        refine va_sld hx hb hXs hbl hbA hS (i := x_111) (vp_in_iff.mpr (by omega)) dL_law_452 ?_
        refine lv_topi (fun x_112 ex_112 => ?_)
        refine k_iW (k_VW (n := 3) ⟨hx, hb, hml, hown, hT⟩ hK hP hD (lift_r (X' := nX) (wr := wX g u_106) (mL_worth l g H.size v hv x_108 x_110 x_112) (fun _ _ _ _ _ _ => trivial)) (gV bw_1484 bw_1485 bw_1486 bw_840 bw_927) rfl rfl (by decide +kernel) ⟨by decide, by decide⟩ (ci := 12) rfl (List.mem_append_right _ List.mem_cons_self) (fun _ _ _ _ _ => trivial) (fun _ _ _ => trivial) rfl rfl hl.1 (Nat.le_of_ble_eq_true rfl) dL_law_453 ⟨by decide, by decide⟩) hD hS hA (fun r_113 v_114 H locs hw hP hD hS => ?_)
        obtain ⟨hv_114, hev_114, htv_114⟩ := hw
        have hl : lv_has ls 4 [(3, .int i), (2, .ref (v_114.1 0)), (1, .ref (u_106.1 0)), (0, .ref b)] := by rw [hev_114]; exact hl
        refine lv_pop hx hb dL_law_456 rfl ?_
        refine lv_goto (tgt := 1217) hx hb dL_law_457 (by decide) ?_
        obtain ⟨x_115, ex_115⟩ : ∃ y : Int32, y = i + 6 := ⟨_, rfl⟩
        have fx_115 : x_115.toInt = i.toInt + 6 := by rw [ex_115]; exact I_add rfl (by decide) (by omega) (by omega)
        refine lv_iinc (v := x_115) (lv' := [(3, .int x_115), (2, .ref (v_114.1 0)), (1, .ref (u_106.1 0)), (0, .ref b)]) hx hb dL_law_1217 hl (k := 0) rfl (by rw [ex_115]; rfl) (by decide) rfl (fun ls hl => ?_)
        refine lv_goto (tgt := 18) hx hb dL_law_1220 (by decide) ?_
        exact ih (n - 1) (by omega) H locs ls ⟨u_106, v_114, x_115, hu_106, hv_114, (htu_106.trans (htt.trans htv_114.symm)), by omega, by omega, hP, hD, hS, lv_sub hl [0, 1, 2, 3] rfl⟩
      · obtain rfl : x_9 = 8 := eh_10
        refine lv_tableIn (tgt := 460) hx hb dL_law_33 (by decide) (by decide) (off := 427) (by decide) (by decide) ?_
        refine lv_aload_n hx hb dL_law_460 rfl (lv_at hl 2 rfl) ?_
        refine lv_aload_n hx hb dL_law_461 rfl (lv_at hl 3 rfl) ?_
        refine lv_iload_n hx hb dL_law_462 rfl (lv_at hl 0 rfl) ?_
        refine lv_iconst (v := 1) hx hb dL_law_463 (by decide) ?_
        refine lv_iadd hx hb dL_law_464 ?_
        refine lv_topi (fun x_116 ex_116 => ?_)
        have fx_116 : x_116.toInt = i.toInt + 1 := by rw [ex_116]; exact I_add rfl (by decide : (1 : Int32).toInt = 1) (by omega) (by omega)
        refine va_sld hx hb hXs hbl hbA hS (i := x_116) (vp_in_iff.mpr (by omega)) dL_law_465 ?_
        refine lv_topi (fun x_117 ex_117 => ?_)
        refine lv_aload_n hx hb dL_law_466 rfl (lv_at hl 3 rfl) ?_
        refine lv_iload_n hx hb dL_law_467 rfl (lv_at hl 0 rfl) ?_
        refine lv_iconst (v := 2) hx hb dL_law_468 (by decide) ?_
        refine lv_iadd hx hb dL_law_469 ?_
        refine lv_topi (fun x_118 ex_118 => ?_)
        have fx_118 : x_118.toInt = i.toInt + 2 := by rw [ex_118]; exact I_add rfl (by decide : (2 : Int32).toInt = 2) (by omega) (by omega)
        refine va_sld hx hb hXs hbl hbA hS (i := x_118) (vp_in_iff.mpr (by omega)) dL_law_470 ?_
        refine lv_topi (fun x_119 ex_119 => ?_)
        refine k_iW (k_VW (n := 2) ⟨hx, hb, hml, hown, hT⟩ hK hP hD (lift_l (X' := nX) (wr := wM g v) (xL_may l g H.size u hu x_117 x_119) (fun _ _ _ _ _ _ => trivial)) (gV bw_1487 bw_1488 bw_1489 bw_395 bw_312) rfl rfl (by decide +kernel) ⟨by decide, by decide⟩ (ci := 11) rfl (List.mem_append_left _ (List.mem_append_left _ List.mem_cons_self)) (fun _ _ _ _ _ => trivial) (fun _ _ _ => trivial) rfl rfl hl.1 (Nat.le_of_ble_eq_true rfl) dL_law_471 ⟨by decide, by decide⟩) hD hS hA (fun r_120 u_121 H locs hw hP hD hS => ?_)
        obtain ⟨hu_121, heu_121, htu_121⟩ := hw
        have hl : lv_has ls 4 [(3, .int i), (2, .ref (v.1 0)), (1, .ref (u_121.1 0)), (0, .ref b)] := by rw [heu_121]; exact hl
        refine lv_pop hx hb dL_law_474 rfl ?_
        refine lv_aload_n hx hb dL_law_475 rfl (lv_at hl 1 rfl) ?_
        refine lv_aload_n hx hb dL_law_476 rfl (lv_at hl 3 rfl) ?_
        refine lv_iload_n hx hb dL_law_477 rfl (lv_at hl 0 rfl) ?_
        refine lv_iconst (v := 1) hx hb dL_law_478 (by decide) ?_
        refine lv_iadd hx hb dL_law_479 ?_
        refine lv_topi (fun x_122 ex_122 => ?_)
        have fx_122 : x_122.toInt = i.toInt + 1 := by rw [ex_122]; exact I_add rfl (by decide : (1 : Int32).toInt = 1) (by omega) (by omega)
        refine va_sld hx hb hXs hbl hbA hS (i := x_122) (vp_in_iff.mpr (by omega)) dL_law_480 ?_
        refine lv_topi (fun x_123 ex_123 => ?_)
        refine lv_aload_n hx hb dL_law_481 rfl (lv_at hl 3 rfl) ?_
        refine lv_iload_n hx hb dL_law_482 rfl (lv_at hl 0 rfl) ?_
        refine lv_iconst (v := 2) hx hb dL_law_483 (by decide) ?_
        refine lv_iadd hx hb dL_law_484 ?_
        refine lv_topi (fun x_124 ex_124 => ?_)
        have fx_124 : x_124.toInt = i.toInt + 2 := by rw [ex_124]; exact I_add rfl (by decide : (2 : Int32).toInt = 2) (by omega) (by omega)
        refine va_sld hx hb hXs hbl hbA hS (i := x_124) (vp_in_iff.mpr (by omega)) dL_law_485 ?_
        refine lv_topi (fun x_125 ex_125 => ?_)
        refine k_iW (k_VW (n := 2) ⟨hx, hb, hml, hown, hT⟩ hK hP hD (lift_r (X' := nX) (wr := wX g u_121) (mL_may l g H.size v hv x_123 x_125) (fun _ _ _ _ _ _ => trivial)) (gV bw_1490 bw_946 bw_947 bw_840 bw_934) rfl rfl (by decide +kernel) ⟨by decide, by decide⟩ (ci := 12) rfl (List.mem_append_right _ List.mem_cons_self) (fun _ _ _ _ _ => trivial) (fun _ _ _ => trivial) rfl rfl hl.1 (Nat.le_of_ble_eq_true rfl) dL_law_486 ⟨by decide, by decide⟩) hD hS hA (fun r_126 v_127 H locs hw hP hD hS => ?_)
        obtain ⟨hv_127, hev_127, htv_127⟩ := hw
        have hl : lv_has ls 4 [(3, .int i), (2, .ref (v_127.1 0)), (1, .ref (u_121.1 0)), (0, .ref b)] := by rw [hev_127]; exact hl
        refine lv_pop hx hb dL_law_489 rfl ?_
        refine lv_goto (tgt := 1217) hx hb dL_law_490 (by decide) ?_
        obtain ⟨x_128, ex_128⟩ : ∃ y : Int32, y = i + 6 := ⟨_, rfl⟩
        have fx_128 : x_128.toInt = i.toInt + 6 := by rw [ex_128]; exact I_add rfl (by decide) (by omega) (by omega)
        refine lv_iinc (v := x_128) (lv' := [(3, .int x_128), (2, .ref (v_127.1 0)), (1, .ref (u_121.1 0)), (0, .ref b)]) hx hb dL_law_1217 hl (k := 0) rfl (by rw [ex_128]; rfl) (by decide) rfl (fun ls hl => ?_)
        refine lv_goto (tgt := 18) hx hb dL_law_1220 (by decide) ?_
        exact ih (n - 1) (by omega) H locs ls ⟨u_121, v_127, x_128, hu_121, hv_127, (htu_121.trans (htt.trans htv_127.symm)), by omega, by omega, hP, hD, hS, lv_sub hl [0, 1, 2, 3] rfl⟩
      · obtain rfl : x_9 = 9 := eh_10
        refine lv_tableIn (tgt := 493) hx hb dL_law_33 (by decide) (by decide) (off := 460) (by decide) (by decide) ?_
        refine lv_aload_n hx hb dL_law_493 rfl (lv_at hl 2 rfl) ?_
        refine lv_aload_n hx hb dL_law_494 rfl (lv_at hl 3 rfl) ?_
        refine lv_iload_n hx hb dL_law_495 rfl (lv_at hl 0 rfl) ?_
        refine lv_iconst (v := 1) hx hb dL_law_496 (by decide) ?_
        refine lv_iadd hx hb dL_law_497 ?_
        refine lv_topi (fun x_129 ex_129 => ?_)
        have fx_129 : x_129.toInt = i.toInt + 1 := by rw [ex_129]; exact I_add rfl (by decide : (1 : Int32).toInt = 1) (by omega) (by omega)
        refine va_sld hx hb hXs hbl hbA hS (i := x_129) (vp_in_iff.mpr (by omega)) dL_law_498 ?_
        refine lv_topi (fun x_130 ex_130 => ?_)
        refine k_iW (k_VW (n := 1) ⟨hx, hb, hml, hown, hT⟩ hK hP hD (lift_l (X' := nX) (wr := wM g v) (xL_next l g H.size u hu x_130) (fun _ _ _ _ _ _ => trivial)) (gV bw_1491 bw_1492 bw_1493 bw_395 bw_316) rfl rfl (by decide +kernel) ⟨by decide, by decide⟩ (ci := 11) rfl (List.mem_append_left _ (List.mem_append_left _ List.mem_cons_self)) (fun _ _ _ _ _ => trivial) (fun _ _ _ => trivial) rfl rfl hl.1 (Nat.le_of_ble_eq_true rfl) dL_law_499 ⟨by decide, by decide⟩) hD hS hA (fun r_131 u_132 H locs hw hP hD hS => ?_)
        obtain ⟨hu_132, heu_132, htu_132⟩ := hw
        have hl : lv_has ls 4 [(3, .int i), (2, .ref (v.1 0)), (1, .ref (u_132.1 0)), (0, .ref b)] := by rw [heu_132]; exact hl
        refine lv_pop hx hb dL_law_502 rfl ?_
        refine lv_aload_n hx hb dL_law_503 rfl (lv_at hl 1 rfl) ?_
        refine lv_aload_n hx hb dL_law_504 rfl (lv_at hl 3 rfl) ?_
        refine lv_iload_n hx hb dL_law_505 rfl (lv_at hl 0 rfl) ?_
        refine lv_iconst (v := 1) hx hb dL_law_506 (by decide) ?_
        refine lv_iadd hx hb dL_law_507 ?_
        refine lv_topi (fun x_133 ex_133 => ?_)
        have fx_133 : x_133.toInt = i.toInt + 1 := by rw [ex_133]; exact I_add rfl (by decide : (1 : Int32).toInt = 1) (by omega) (by omega)
        refine va_sld hx hb hXs hbl hbA hS (i := x_133) (vp_in_iff.mpr (by omega)) dL_law_508 ?_
        refine lv_topi (fun x_134 ex_134 => ?_)
        refine k_iW (k_VW (n := 1) ⟨hx, hb, hml, hown, hT⟩ hK hP hD (lift_r (X' := nX) (wr := wX g u_132) (mL_next l g H.size v hv x_134) (fun _ _ _ _ _ _ => trivial)) (gV bw_1494 bw_1495 bw_1496 bw_840 bw_949) rfl rfl (by decide +kernel) ⟨by decide, by decide⟩ (ci := 12) rfl (List.mem_append_right _ List.mem_cons_self) (fun _ _ _ _ _ => trivial) (fun _ _ _ => trivial) rfl rfl hl.1 (Nat.le_of_ble_eq_true rfl) dL_law_509 ⟨by decide, by decide⟩) hD hS hA (fun r_135 v_136 H locs hw hP hD hS => ?_)
        obtain ⟨hv_136, hev_136, htv_136⟩ := hw
        have hl : lv_has ls 4 [(3, .int i), (2, .ref (v_136.1 0)), (1, .ref (u_132.1 0)), (0, .ref b)] := by rw [hev_136]; exact hl
        refine lv_pop hx hb dL_law_512 rfl ?_
        refine lv_goto (tgt := 1217) hx hb dL_law_513 (by decide) ?_
        obtain ⟨x_137, ex_137⟩ : ∃ y : Int32, y = i + 6 := ⟨_, rfl⟩
        have fx_137 : x_137.toInt = i.toInt + 6 := by rw [ex_137]; exact I_add rfl (by decide) (by omega) (by omega)
        refine lv_iinc (v := x_137) (lv' := [(3, .int x_137), (2, .ref (v_136.1 0)), (1, .ref (u_132.1 0)), (0, .ref b)]) hx hb dL_law_1217 hl (k := 0) rfl (by rw [ex_137]; rfl) (by decide) rfl (fun ls hl => ?_)
        refine lv_goto (tgt := 18) hx hb dL_law_1220 (by decide) ?_
        exact ih (n - 1) (by omega) H locs ls ⟨u_132, v_136, x_137, hu_132, hv_136, (htu_132.trans (htt.trans htv_136.symm)), by omega, by omega, hP, hD, hS, lv_sub hl [0, 1, 2, 3] rfl⟩
      · obtain rfl : x_9 = 10 := eh_10
        refine lv_tableIn (tgt := 516) hx hb dL_law_33 (by decide) (by decide) (off := 483) (by decide) (by decide) ?_
        refine lv_aload_n hx hb dL_law_516 rfl (lv_at hl 2 rfl) ?_
        refine lv_aload_n hx hb dL_law_517 rfl (lv_at hl 3 rfl) ?_
        refine lv_iload_n hx hb dL_law_518 rfl (lv_at hl 0 rfl) ?_
        refine lv_iconst (v := 1) hx hb dL_law_519 (by decide) ?_
        refine lv_iadd hx hb dL_law_520 ?_
        refine lv_topi (fun x_138 ex_138 => ?_)
        have fx_138 : x_138.toInt = i.toInt + 1 := by rw [ex_138]; exact I_add rfl (by decide : (1 : Int32).toInt = 1) (by omega) (by omega)
        refine va_sld hx hb hXs hbl hbA hS (i := x_138) (vp_in_iff.mpr (by omega)) dL_law_521 ?_
        refine lv_topi (fun x_139 ex_139 => ?_)
        refine k_iW (k_VW (n := 1) ⟨hx, hb, hml, hown, hT⟩ hK hP hD (lift_l (X' := nX) (wr := wM g v) (xL_heir l g H.size u hu x_139) (fun _ _ _ _ _ _ => trivial)) (gV bw_1497 bw_1498 bw_1499 bw_395 bw_318) rfl rfl (by decide +kernel) ⟨by decide, by decide⟩ (ci := 11) rfl (List.mem_append_left _ (List.mem_append_left _ List.mem_cons_self)) (fun _ _ _ _ _ => trivial) (fun _ _ _ => trivial) rfl rfl hl.1 (Nat.le_of_ble_eq_true rfl) dL_law_522 ⟨by decide, by decide⟩) hD hS hA (fun r_140 u_141 H locs hw hP hD hS => ?_)
        obtain ⟨hu_141, heu_141, htu_141⟩ := hw
        have hl : lv_has ls 4 [(3, .int i), (2, .ref (v.1 0)), (1, .ref (u_141.1 0)), (0, .ref b)] := by rw [heu_141]; exact hl
        refine lv_pop hx hb dL_law_525 rfl ?_
        refine lv_aload_n hx hb dL_law_526 rfl (lv_at hl 1 rfl) ?_
        refine lv_aload_n hx hb dL_law_527 rfl (lv_at hl 3 rfl) ?_
        refine lv_iload_n hx hb dL_law_528 rfl (lv_at hl 0 rfl) ?_
        refine lv_iconst (v := 1) hx hb dL_law_529 (by decide) ?_
        refine lv_iadd hx hb dL_law_530 ?_
        refine lv_topi (fun x_142 ex_142 => ?_)
        have fx_142 : x_142.toInt = i.toInt + 1 := by rw [ex_142]; exact I_add rfl (by decide : (1 : Int32).toInt = 1) (by omega) (by omega)
        refine va_sld hx hb hXs hbl hbA hS (i := x_142) (vp_in_iff.mpr (by omega)) dL_law_531 ?_
        refine lv_topi (fun x_143 ex_143 => ?_)
        refine k_iW (k_VW (n := 1) ⟨hx, hb, hml, hown, hT⟩ hK hP hD (lift_r (X' := nX) (wr := wX g u_141) (mL_heir l g H.size v hv x_143) (fun _ _ _ _ _ _ => trivial)) (gV bw_1500 bw_1501 bw_1502 bw_840 bw_939) rfl rfl (by decide +kernel) ⟨by decide, by decide⟩ (ci := 12) rfl (List.mem_append_right _ List.mem_cons_self) (fun _ _ _ _ _ => trivial) (fun _ _ _ => trivial) rfl rfl hl.1 (Nat.le_of_ble_eq_true rfl) dL_law_532 ⟨by decide, by decide⟩) hD hS hA (fun r_144 v_145 H locs hw hP hD hS => ?_)
        obtain ⟨hv_145, hev_145, htv_145⟩ := hw
        have hl : lv_has ls 4 [(3, .int i), (2, .ref (v_145.1 0)), (1, .ref (u_141.1 0)), (0, .ref b)] := by rw [hev_145]; exact hl
        refine lv_pop hx hb dL_law_535 rfl ?_
        refine lv_goto (tgt := 1217) hx hb dL_law_536 (by decide) ?_
        obtain ⟨x_146, ex_146⟩ : ∃ y : Int32, y = i + 6 := ⟨_, rfl⟩
        have fx_146 : x_146.toInt = i.toInt + 6 := by rw [ex_146]; exact I_add rfl (by decide) (by omega) (by omega)
        refine lv_iinc (v := x_146) (lv' := [(3, .int x_146), (2, .ref (v_145.1 0)), (1, .ref (u_141.1 0)), (0, .ref b)]) hx hb dL_law_1217 hl (k := 0) rfl (by rw [ex_146]; rfl) (by decide) rfl (fun ls hl => ?_)
        refine lv_goto (tgt := 18) hx hb dL_law_1220 (by decide) ?_
        exact ih (n - 1) (by omega) H locs ls ⟨u_141, v_145, x_146, hu_141, hv_145, (htu_141.trans (htt.trans htv_145.symm)), by omega, by omega, hP, hD, hS, lv_sub hl [0, 1, 2, 3] rfl⟩
      · obtain rfl : x_9 = 11 := eh_10
        refine lv_tableIn (tgt := 539) hx hb dL_law_33 (by decide) (by decide) (off := 506) (by decide) (by decide) ?_
        refine lv_aload_n hx hb dL_law_539 rfl (lv_at hl 2 rfl) ?_
        refine lv_aload_n hx hb dL_law_540 rfl (lv_at hl 3 rfl) ?_
        refine lv_iload_n hx hb dL_law_541 rfl (lv_at hl 0 rfl) ?_
        refine lv_iconst (v := 1) hx hb dL_law_542 (by decide) ?_
        refine lv_iadd hx hb dL_law_543 ?_
        refine lv_topi (fun x_147 ex_147 => ?_)
        have fx_147 : x_147.toInt = i.toInt + 1 := by rw [ex_147]; exact I_add rfl (by decide : (1 : Int32).toInt = 1) (by omega) (by omega)
        refine va_sld hx hb hXs hbl hbA hS (i := x_147) (vp_in_iff.mpr (by omega)) dL_law_544 ?_
        refine lv_topi (fun x_148 ex_148 => ?_)
        refine k_iW (k_VW (n := 1) ⟨hx, hb, hml, hown, hT⟩ hK hP hD (lift_l (X' := nX) (wr := wM g v) (xL_his l g H.size u hu x_148) (fun _ _ _ _ _ _ => trivial)) (gV bw_1503 bw_1504 bw_1505 bw_395 bw_345) rfl rfl (by decide +kernel) ⟨by decide, by decide⟩ (ci := 11) rfl (List.mem_append_left _ (List.mem_append_left _ List.mem_cons_self)) (fun _ _ _ _ _ => trivial) (fun _ _ _ => trivial) rfl rfl hl.1 (Nat.le_of_ble_eq_true rfl) dL_law_545 ⟨by decide, by decide⟩) hD hS hA (fun r_149 u_150 H locs hw hP hD hS => ?_)
        obtain ⟨hu_150, heu_150, htu_150⟩ := hw
        have hl : lv_has ls 4 [(3, .int i), (2, .ref (v.1 0)), (1, .ref (u_150.1 0)), (0, .ref b)] := by rw [heu_150]; exact hl
        refine lv_pop hx hb dL_law_548 rfl ?_
        refine lv_aload_n hx hb dL_law_549 rfl (lv_at hl 1 rfl) ?_
        refine lv_aload_n hx hb dL_law_550 rfl (lv_at hl 3 rfl) ?_
        refine lv_iload_n hx hb dL_law_551 rfl (lv_at hl 0 rfl) ?_
        refine lv_iconst (v := 1) hx hb dL_law_552 (by decide) ?_
        refine lv_iadd hx hb dL_law_553 ?_
        refine lv_topi (fun x_151 ex_151 => ?_)
        have fx_151 : x_151.toInt = i.toInt + 1 := by rw [ex_151]; exact I_add rfl (by decide : (1 : Int32).toInt = 1) (by omega) (by omega)
        refine va_sld hx hb hXs hbl hbA hS (i := x_151) (vp_in_iff.mpr (by omega)) dL_law_554 ?_
        refine lv_topi (fun x_152 ex_152 => ?_)
        refine k_iW (k_VW (n := 1) ⟨hx, hb, hml, hown, hT⟩ hK hP hD (lift_r (X' := nX) (wr := wX g u_150) (mL_his l g H.size v hv x_152) (fun _ _ _ _ _ _ => trivial)) (gV bw_1506 bw_1507 bw_1508 bw_840 bw_948) rfl rfl (by decide +kernel) ⟨by decide, by decide⟩ (ci := 12) rfl (List.mem_append_right _ List.mem_cons_self) (fun _ _ _ _ _ => trivial) (fun _ _ _ => trivial) rfl rfl hl.1 (Nat.le_of_ble_eq_true rfl) dL_law_555 ⟨by decide, by decide⟩) hD hS hA (fun r_153 v_154 H locs hw hP hD hS => ?_)
        obtain ⟨hv_154, hev_154, htv_154⟩ := hw
        have hl : lv_has ls 4 [(3, .int i), (2, .ref (v_154.1 0)), (1, .ref (u_150.1 0)), (0, .ref b)] := by rw [hev_154]; exact hl
        refine lv_pop hx hb dL_law_558 rfl ?_
        refine lv_goto (tgt := 1217) hx hb dL_law_559 (by decide) ?_
        obtain ⟨x_155, ex_155⟩ : ∃ y : Int32, y = i + 6 := ⟨_, rfl⟩
        have fx_155 : x_155.toInt = i.toInt + 6 := by rw [ex_155]; exact I_add rfl (by decide) (by omega) (by omega)
        refine lv_iinc (v := x_155) (lv' := [(3, .int x_155), (2, .ref (v_154.1 0)), (1, .ref (u_150.1 0)), (0, .ref b)]) hx hb dL_law_1217 hl (k := 0) rfl (by rw [ex_155]; rfl) (by decide) rfl (fun ls hl => ?_)
        refine lv_goto (tgt := 18) hx hb dL_law_1220 (by decide) ?_
        exact ih (n - 1) (by omega) H locs ls ⟨u_150, v_154, x_155, hu_150, hv_154, (htu_150.trans (htt.trans htv_154.symm)), by omega, by omega, hP, hD, hS, lv_sub hl [0, 1, 2, 3] rfl⟩
      · obtain rfl : x_9 = 12 := eh_10
        refine lv_tableIn (tgt := 562) hx hb dL_law_33 (by decide) (by decide) (off := 529) (by decide) (by decide) ?_
        refine lv_aload_n hx hb dL_law_562 rfl (lv_at hl 2 rfl) ?_
        refine lv_aload_n hx hb dL_law_563 rfl (lv_at hl 3 rfl) ?_
        refine lv_iload_n hx hb dL_law_564 rfl (lv_at hl 0 rfl) ?_
        refine lv_iconst (v := 1) hx hb dL_law_565 (by decide) ?_
        refine lv_iadd hx hb dL_law_566 ?_
        refine lv_topi (fun x_156 ex_156 => ?_)
        have fx_156 : x_156.toInt = i.toInt + 1 := by rw [ex_156]; exact I_add rfl (by decide : (1 : Int32).toInt = 1) (by omega) (by omega)
        refine va_sld hx hb hXs hbl hbA hS (i := x_156) (vp_in_iff.mpr (by omega)) dL_law_567 ?_
        refine lv_topi (fun x_157 ex_157 => ?_)
        refine lv_aload_n hx hb dL_law_568 rfl (lv_at hl 3 rfl) ?_
        refine lv_iload_n hx hb dL_law_569 rfl (lv_at hl 0 rfl) ?_
        refine lv_iconst (v := 2) hx hb dL_law_570 (by decide) ?_
        refine lv_iadd hx hb dL_law_571 ?_
        refine lv_topi (fun x_158 ex_158 => ?_)
        have fx_158 : x_158.toInt = i.toInt + 2 := by rw [ex_158]; exact I_add rfl (by decide : (2 : Int32).toInt = 2) (by omega) (by omega)
        refine va_sld hx hb hXs hbl hbA hS (i := x_158) (vp_in_iff.mpr (by omega)) dL_law_572 ?_
        refine lv_topi (fun x_159 ex_159 => ?_)
        refine k_iW (k_VW (n := 2) ⟨hx, hb, hml, hown, hT⟩ hK hP hD (lift_l (X' := nX) (wr := wM g v) (xL_comes l g H.size u hu x_157 x_159) (fun _ _ _ _ _ _ => trivial)) (gV bw_1509 bw_1510 bw_1511 bw_395 bw_364) rfl rfl (by decide +kernel) ⟨by decide, by decide⟩ (ci := 11) rfl (List.mem_append_left _ (List.mem_append_left _ List.mem_cons_self)) (fun _ _ _ _ _ => trivial) (fun _ _ _ => trivial) rfl rfl hl.1 (Nat.le_of_ble_eq_true rfl) dL_law_573 ⟨by decide, by decide⟩) hD hS hA (fun r_160 u_161 H locs hw hP hD hS => ?_)
        obtain ⟨hu_161, heu_161, htu_161⟩ := hw
        have hl : lv_has ls 4 [(3, .int i), (2, .ref (v.1 0)), (1, .ref (u_161.1 0)), (0, .ref b)] := by rw [heu_161]; exact hl
        refine lv_pop hx hb dL_law_576 rfl ?_
        refine lv_aload_n hx hb dL_law_577 rfl (lv_at hl 1 rfl) ?_
        refine lv_aload_n hx hb dL_law_578 rfl (lv_at hl 3 rfl) ?_
        refine lv_iload_n hx hb dL_law_579 rfl (lv_at hl 0 rfl) ?_
        refine lv_iconst (v := 1) hx hb dL_law_580 (by decide) ?_
        refine lv_iadd hx hb dL_law_581 ?_
        refine lv_topi (fun x_162 ex_162 => ?_)
        have fx_162 : x_162.toInt = i.toInt + 1 := by rw [ex_162]; exact I_add rfl (by decide : (1 : Int32).toInt = 1) (by omega) (by omega)
        refine va_sld hx hb hXs hbl hbA hS (i := x_162) (vp_in_iff.mpr (by omega)) dL_law_582 ?_
        refine lv_topi (fun x_163 ex_163 => ?_)
        refine lv_aload_n hx hb dL_law_583 rfl (lv_at hl 3 rfl) ?_
        refine lv_iload_n hx hb dL_law_584 rfl (lv_at hl 0 rfl) ?_
        refine lv_iconst (v := 2) hx hb dL_law_585 (by decide) ?_
        refine lv_iadd hx hb dL_law_586 ?_
        refine lv_topi (fun x_164 ex_164 => ?_)
        have fx_164 : x_164.toInt = i.toInt + 2 := by rw [ex_164]; exact I_add rfl (by decide : (2 : Int32).toInt = 2) (by omega) (by omega)
        refine va_sld hx hb hXs hbl hbA hS (i := x_164) (vp_in_iff.mpr (by omega)) dL_law_587 ?_
        refine lv_topi (fun x_165 ex_165 => ?_)
        refine k_iW (k_VW (n := 2) ⟨hx, hb, hml, hown, hT⟩ hK hP hD (lift_r (X' := nX) (wr := wX g u_161) (mL_comes l g H.size v hv x_163 x_165) (fun _ _ _ _ _ _ => trivial)) (gV bw_1512 bw_1513 bw_1514 bw_840 bw_967) rfl rfl (by decide +kernel) ⟨by decide, by decide⟩ (ci := 12) rfl (List.mem_append_right _ List.mem_cons_self) (fun _ _ _ _ _ => trivial) (fun _ _ _ => trivial) rfl rfl hl.1 (Nat.le_of_ble_eq_true rfl) dL_law_588 ⟨by decide, by decide⟩) hD hS hA (fun r_166 v_167 H locs hw hP hD hS => ?_)
        obtain ⟨hv_167, hev_167, htv_167⟩ := hw
        have hl : lv_has ls 4 [(3, .int i), (2, .ref (v_167.1 0)), (1, .ref (u_161.1 0)), (0, .ref b)] := by rw [hev_167]; exact hl
        refine lv_pop hx hb dL_law_591 rfl ?_
        refine lv_goto (tgt := 1217) hx hb dL_law_592 (by decide) ?_
        obtain ⟨x_168, ex_168⟩ : ∃ y : Int32, y = i + 6 := ⟨_, rfl⟩
        have fx_168 : x_168.toInt = i.toInt + 6 := by rw [ex_168]; exact I_add rfl (by decide) (by omega) (by omega)
        refine lv_iinc (v := x_168) (lv' := [(3, .int x_168), (2, .ref (v_167.1 0)), (1, .ref (u_161.1 0)), (0, .ref b)]) hx hb dL_law_1217 hl (k := 0) rfl (by rw [ex_168]; rfl) (by decide) rfl (fun ls hl => ?_)
        refine lv_goto (tgt := 18) hx hb dL_law_1220 (by decide) ?_
        exact ih (n - 1) (by omega) H locs ls ⟨u_161, v_167, x_168, hu_161, hv_167, (htu_161.trans (htt.trans htv_167.symm)), by omega, by omega, hP, hD, hS, lv_sub hl [0, 1, 2, 3] rfl⟩
      · obtain rfl : x_9 = 13 := eh_10
        refine lv_tableIn (tgt := 595) hx hb dL_law_33 (by decide) (by decide) (off := 562) (by decide) (by decide) ?_
        refine lv_aload_n hx hb dL_law_595 rfl (lv_at hl 2 rfl) ?_
        refine lv_aload_n hx hb dL_law_596 rfl (lv_at hl 3 rfl) ?_
        refine lv_iload_n hx hb dL_law_597 rfl (lv_at hl 0 rfl) ?_
        refine lv_iconst (v := 1) hx hb dL_law_598 (by decide) ?_
        refine lv_iadd hx hb dL_law_599 ?_
        refine lv_topi (fun x_169 ex_169 => ?_)
        have fx_169 : x_169.toInt = i.toInt + 1 := by rw [ex_169]; exact I_add rfl (by decide : (1 : Int32).toInt = 1) (by omega) (by omega)
        refine va_sld hx hb hXs hbl hbA hS (i := x_169) (vp_in_iff.mpr (by omega)) dL_law_600 ?_
        refine lv_topi (fun x_170 ex_170 => ?_)
        refine lv_aload_n hx hb dL_law_601 rfl (lv_at hl 3 rfl) ?_
        refine lv_iload_n hx hb dL_law_602 rfl (lv_at hl 0 rfl) ?_
        refine lv_iconst (v := 2) hx hb dL_law_603 (by decide) ?_
        refine lv_iadd hx hb dL_law_604 ?_
        refine lv_topi (fun x_171 ex_171 => ?_)
        have fx_171 : x_171.toInt = i.toInt + 2 := by rw [ex_171]; exact I_add rfl (by decide : (2 : Int32).toInt = 2) (by omega) (by omega)
        refine va_sld hx hb hXs hbl hbA hS (i := x_171) (vp_in_iff.mpr (by omega)) dL_law_605 ?_
        refine lv_topi (fun x_172 ex_172 => ?_)
        refine lv_aload_n hx hb dL_law_606 rfl (lv_at hl 3 rfl) ?_
        refine lv_iload_n hx hb dL_law_607 rfl (lv_at hl 0 rfl) ?_
        refine lv_iconst (v := 3) hx hb dL_law_608 (by decide) ?_
        refine lv_iadd hx hb dL_law_609 ?_
        refine lv_topi (fun x_173 ex_173 => ?_)
        have fx_173 : x_173.toInt = i.toInt + 3 := by rw [ex_173]; exact I_add rfl (by decide : (3 : Int32).toInt = 3) (by omega) (by omega)
        refine va_sld hx hb hXs hbl hbA hS (i := x_173) (vp_in_iff.mpr (by omega)) dL_law_610 ?_
        refine lv_topi (fun x_174 ex_174 => ?_)
        rcases (show (u.2.1 1).toInt ≤ 39 ∨ (u.2.1 1).toInt = 40 by have q9 := hu.2.1; omega) with hcc | hcc
        · refine k_iW (k_VW (n := 3) ⟨hx, hb, hml, hown, hT⟩ hK hP hD (lift_l (X' := nX) (wr := wM g v) (xL_put_l l g H.size u hu x_170 x_172 x_174 hcc) (fun _ _ _ _ _ _ => trivial)) (gV bw_1515 bw_1516 bw_1517 bw_395 bw_510) rfl rfl (by decide +kernel) ⟨by decide, by decide⟩ (ci := 11) rfl (List.mem_append_left _ (List.mem_append_left _ List.mem_cons_self)) (fun _ _ _ _ _ => trivial) (fun _ _ _ => trivial) rfl rfl hl.1 (Nat.le_of_ble_eq_true rfl) dL_law_611 ⟨by decide, by decide⟩) hD hS hA (fun r_175 u_176 H locs hw hP hD hS => ?_)
          obtain ⟨hu_176, heu_176, htu_176⟩ := hw
          have hl : lv_has ls 4 [(3, .int i), (2, .ref (v.1 0)), (1, .ref (u_176.1 0)), (0, .ref b)] := by rw [heu_176]; exact hl
          refine lv_pop hx hb dL_law_614 rfl ?_
          refine lv_aload_n hx hb dL_law_615 rfl (lv_at hl 1 rfl) ?_
          refine lv_aload_n hx hb dL_law_616 rfl (lv_at hl 3 rfl) ?_
          refine lv_iload_n hx hb dL_law_617 rfl (lv_at hl 0 rfl) ?_
          refine lv_iconst (v := 1) hx hb dL_law_618 (by decide) ?_
          refine lv_iadd hx hb dL_law_619 ?_
          refine lv_topi (fun x_177 ex_177 => ?_)
          have fx_177 : x_177.toInt = i.toInt + 1 := by rw [ex_177]; exact I_add rfl (by decide : (1 : Int32).toInt = 1) (by omega) (by omega)
          refine va_sld hx hb hXs hbl hbA hS (i := x_177) (vp_in_iff.mpr (by omega)) dL_law_620 ?_
          refine lv_topi (fun x_178 ex_178 => ?_)
          refine lv_aload_n hx hb dL_law_621 rfl (lv_at hl 3 rfl) ?_
          refine lv_iload_n hx hb dL_law_622 rfl (lv_at hl 0 rfl) ?_
          refine lv_iconst (v := 2) hx hb dL_law_623 (by decide) ?_
          refine lv_iadd hx hb dL_law_624 ?_
          refine lv_topi (fun x_179 ex_179 => ?_)
          have fx_179 : x_179.toInt = i.toInt + 2 := by rw [ex_179]; exact I_add rfl (by decide : (2 : Int32).toInt = 2) (by omega) (by omega)
          refine va_sld hx hb hXs hbl hbA hS (i := x_179) (vp_in_iff.mpr (by omega)) dL_law_625 ?_
          refine lv_topi (fun x_180 ex_180 => ?_)
          refine lv_aload_n hx hb dL_law_626 rfl (lv_at hl 3 rfl) ?_
          refine lv_iload_n hx hb dL_law_627 rfl (lv_at hl 0 rfl) ?_
          refine lv_iconst (v := 3) hx hb dL_law_628 (by decide) ?_
          refine lv_iadd hx hb dL_law_629 ?_
          refine lv_topi (fun x_181 ex_181 => ?_)
          have fx_181 : x_181.toInt = i.toInt + 3 := by rw [ex_181]; exact I_add rfl (by decide : (3 : Int32).toInt = 3) (by omega) (by omega)
          refine va_sld hx hb hXs hbl hbA hS (i := x_181) (vp_in_iff.mpr (by omega)) dL_law_630 ?_
          refine lv_topi (fun x_182 ex_182 => ?_)
          refine k_iW (k_VW (n := 3) ⟨hx, hb, hml, hown, hT⟩ hK hP hD (lift_r (X' := nX) (wr := wX g u_176) (mL_put l g H.size v hv x_178 x_180 x_182) (fun _ _ _ _ _ _ => trivial)) (gV bw_1518 bw_1519 bw_1520 bw_840 bw_989) rfl rfl (by decide +kernel) ⟨by decide, by decide⟩ (ci := 12) rfl (List.mem_append_right _ List.mem_cons_self) (fun _ _ _ _ _ => trivial) (fun _ _ _ => trivial) rfl rfl hl.1 (Nat.le_of_ble_eq_true rfl) dL_law_631 ⟨by decide, by decide⟩) hD hS hA (fun r_183 v_184 H locs hw hP hD hS => ?_)
          obtain ⟨hv_184, hev_184, htv_184⟩ := hw
          have hl : lv_has ls 4 [(3, .int i), (2, .ref (v_184.1 0)), (1, .ref (u_176.1 0)), (0, .ref b)] := by rw [hev_184]; exact hl
          refine lv_pop hx hb dL_law_634 rfl ?_
          refine lv_goto (tgt := 1217) hx hb dL_law_635 (by decide) ?_
          obtain ⟨x_185, ex_185⟩ : ∃ y : Int32, y = i + 6 := ⟨_, rfl⟩
          have fx_185 : x_185.toInt = i.toInt + 6 := by rw [ex_185]; exact I_add rfl (by decide) (by omega) (by omega)
          refine lv_iinc (v := x_185) (lv' := [(3, .int x_185), (2, .ref (v_184.1 0)), (1, .ref (u_176.1 0)), (0, .ref b)]) hx hb dL_law_1217 hl (k := 0) rfl (by rw [ex_185]; rfl) (by decide) rfl (fun ls hl => ?_)
          refine lv_goto (tgt := 18) hx hb dL_law_1220 (by decide) ?_
          exact ih (n - 1) (by omega) H locs ls ⟨u_176, v_184, x_185, hu_176, hv_184, (htu_176.trans (htt.trans htv_184.symm)), by omega, by omega, hP, hD, hS, lv_sub hl [0, 1, 2, 3] rfl⟩
        · refine k_iW (k_VW (n := 3) ⟨hx, hb, hml, hown, hT⟩ hK hP hD (lift_l (X' := nX) (wr := wM g v) (xL_put_h l g H.size u hu x_170 x_172 x_174 hcc) (fun _ _ _ _ _ _ => trivial)) (gV bw_1515 bw_1516 bw_1517 bw_395 bw_510) rfl rfl (by decide +kernel) ⟨by decide, by decide⟩ (ci := 11) rfl (List.mem_append_left _ (List.mem_append_left _ List.mem_cons_self)) (fun _ _ _ _ _ => trivial) (fun _ _ _ => trivial) rfl rfl hl.1 (Nat.le_of_ble_eq_true rfl) dL_law_611 ⟨by decide, by decide⟩) hD hS hA (fun r_186 u_187 H locs hw hP hD hS => ?_)
          obtain ⟨hu_187, heu_187, htu_187⟩ := hw
          have hl : lv_has ls 4 [(3, .int i), (2, .ref (v.1 0)), (1, .ref (u_187.1 0)), (0, .ref b)] := by rw [heu_187]; exact hl
          refine lv_pop hx hb dL_law_614 rfl ?_
          refine lv_aload_n hx hb dL_law_615 rfl (lv_at hl 1 rfl) ?_
          refine lv_aload_n hx hb dL_law_616 rfl (lv_at hl 3 rfl) ?_
          refine lv_iload_n hx hb dL_law_617 rfl (lv_at hl 0 rfl) ?_
          refine lv_iconst (v := 1) hx hb dL_law_618 (by decide) ?_
          refine lv_iadd hx hb dL_law_619 ?_
          refine lv_topi (fun x_188 ex_188 => ?_)
          have fx_188 : x_188.toInt = i.toInt + 1 := by rw [ex_188]; exact I_add rfl (by decide : (1 : Int32).toInt = 1) (by omega) (by omega)
          refine va_sld hx hb hXs hbl hbA hS (i := x_188) (vp_in_iff.mpr (by omega)) dL_law_620 ?_
          refine lv_topi (fun x_189 ex_189 => ?_)
          refine lv_aload_n hx hb dL_law_621 rfl (lv_at hl 3 rfl) ?_
          refine lv_iload_n hx hb dL_law_622 rfl (lv_at hl 0 rfl) ?_
          refine lv_iconst (v := 2) hx hb dL_law_623 (by decide) ?_
          refine lv_iadd hx hb dL_law_624 ?_
          refine lv_topi (fun x_190 ex_190 => ?_)
          have fx_190 : x_190.toInt = i.toInt + 2 := by rw [ex_190]; exact I_add rfl (by decide : (2 : Int32).toInt = 2) (by omega) (by omega)
          refine va_sld hx hb hXs hbl hbA hS (i := x_190) (vp_in_iff.mpr (by omega)) dL_law_625 ?_
          refine lv_topi (fun x_191 ex_191 => ?_)
          refine lv_aload_n hx hb dL_law_626 rfl (lv_at hl 3 rfl) ?_
          refine lv_iload_n hx hb dL_law_627 rfl (lv_at hl 0 rfl) ?_
          refine lv_iconst (v := 3) hx hb dL_law_628 (by decide) ?_
          refine lv_iadd hx hb dL_law_629 ?_
          refine lv_topi (fun x_192 ex_192 => ?_)
          have fx_192 : x_192.toInt = i.toInt + 3 := by rw [ex_192]; exact I_add rfl (by decide : (3 : Int32).toInt = 3) (by omega) (by omega)
          refine va_sld hx hb hXs hbl hbA hS (i := x_192) (vp_in_iff.mpr (by omega)) dL_law_630 ?_
          refine lv_topi (fun x_193 ex_193 => ?_)
          refine k_iW (k_VW (n := 3) ⟨hx, hb, hml, hown, hT⟩ hK hP hD (lift_r (X' := nX) (wr := wX g u_187) (mL_put l g H.size v hv x_189 x_191 x_193) (fun _ _ _ _ _ _ => trivial)) (gV bw_1518 bw_1519 bw_1520 bw_840 bw_989) rfl rfl (by decide +kernel) ⟨by decide, by decide⟩ (ci := 12) rfl (List.mem_append_right _ List.mem_cons_self) (fun _ _ _ _ _ => trivial) (fun _ _ _ => trivial) rfl rfl hl.1 (Nat.le_of_ble_eq_true rfl) dL_law_631 ⟨by decide, by decide⟩) hD hS hA (fun r_194 v_195 H locs hw hP hD hS => ?_)
          obtain ⟨hv_195, hev_195, htv_195⟩ := hw
          have hl : lv_has ls 4 [(3, .int i), (2, .ref (v_195.1 0)), (1, .ref (u_187.1 0)), (0, .ref b)] := by rw [hev_195]; exact hl
          refine lv_pop hx hb dL_law_634 rfl ?_
          refine lv_goto (tgt := 1217) hx hb dL_law_635 (by decide) ?_
          obtain ⟨x_196, ex_196⟩ : ∃ y : Int32, y = i + 6 := ⟨_, rfl⟩
          have fx_196 : x_196.toInt = i.toInt + 6 := by rw [ex_196]; exact I_add rfl (by decide) (by omega) (by omega)
          refine lv_iinc (v := x_196) (lv' := [(3, .int x_196), (2, .ref (v_195.1 0)), (1, .ref (u_187.1 0)), (0, .ref b)]) hx hb dL_law_1217 hl (k := 0) rfl (by rw [ex_196]; rfl) (by decide) rfl (fun ls hl => ?_)
          refine lv_goto (tgt := 18) hx hb dL_law_1220 (by decide) ?_
          exact ih (n - 1) (by omega) H locs ls ⟨u_187, v_195, x_196, hu_187, hv_195, (htu_187.trans (htt.trans htv_195.symm)), by omega, by omega, hP, hD, hS, lv_sub hl [0, 1, 2, 3] rfl⟩
      · obtain rfl : x_9 = 14 := eh_10
        refine lv_tableIn (tgt := 638) hx hb dL_law_33 (by decide) (by decide) (off := 605) (by decide) (by decide) ?_
        refine lv_aload_n hx hb dL_law_638 rfl (lv_at hl 2 rfl) ?_
        refine lv_aload_n hx hb dL_law_639 rfl (lv_at hl 3 rfl) ?_
        refine lv_iload_n hx hb dL_law_640 rfl (lv_at hl 0 rfl) ?_
        refine lv_iconst (v := 1) hx hb dL_law_641 (by decide) ?_
        refine lv_iadd hx hb dL_law_642 ?_
        refine lv_topi (fun x_197 ex_197 => ?_)
        have fx_197 : x_197.toInt = i.toInt + 1 := by rw [ex_197]; exact I_add rfl (by decide : (1 : Int32).toInt = 1) (by omega) (by omega)
        refine va_sld hx hb hXs hbl hbA hS (i := x_197) (vp_in_iff.mpr (by omega)) dL_law_643 ?_
        refine lv_topi (fun x_198 ex_198 => ?_)
        refine lv_aload_n hx hb dL_law_644 rfl (lv_at hl 3 rfl) ?_
        refine lv_iload_n hx hb dL_law_645 rfl (lv_at hl 0 rfl) ?_
        refine lv_iconst (v := 2) hx hb dL_law_646 (by decide) ?_
        refine lv_iadd hx hb dL_law_647 ?_
        refine lv_topi (fun x_199 ex_199 => ?_)
        have fx_199 : x_199.toInt = i.toInt + 2 := by rw [ex_199]; exact I_add rfl (by decide : (2 : Int32).toInt = 2) (by omega) (by omega)
        refine va_sld hx hb hXs hbl hbA hS (i := x_199) (vp_in_iff.mpr (by omega)) dL_law_648 ?_
        refine lv_topi (fun x_200 ex_200 => ?_)
        rcases (show (u.2.1 1).toInt ≤ 39 ∨ (u.2.1 1).toInt = 40 by have q9 := hu.2.1; omega) with hcc | hcc
        · refine k_iW (k_VW (n := 2) ⟨hx, hb, hml, hown, hT⟩ hK hP hD (lift_l (X' := nX) (wr := wM g v) (xL_rent_l l g H.size u hu x_198 x_200 hcc) (fun _ _ _ _ _ _ => trivial)) (gV bw_1521 bw_1522 bw_1523 bw_395 bw_513) rfl rfl (by decide +kernel) ⟨by decide, by decide⟩ (ci := 11) rfl (List.mem_append_left _ (List.mem_append_left _ List.mem_cons_self)) (fun _ _ _ _ _ => trivial) (fun _ _ _ => trivial) rfl rfl hl.1 (Nat.le_of_ble_eq_true rfl) dL_law_649 ⟨by decide, by decide⟩) hD hS hA (fun r_201 u_202 H locs hw hP hD hS => ?_)
          obtain ⟨hu_202, heu_202, htu_202⟩ := hw
          have hl : lv_has ls 4 [(3, .int i), (2, .ref (v.1 0)), (1, .ref (u_202.1 0)), (0, .ref b)] := by rw [heu_202]; exact hl
          refine lv_pop hx hb dL_law_652 rfl ?_
          refine lv_aload_n hx hb dL_law_653 rfl (lv_at hl 1 rfl) ?_
          refine lv_aload_n hx hb dL_law_654 rfl (lv_at hl 3 rfl) ?_
          refine lv_iload_n hx hb dL_law_655 rfl (lv_at hl 0 rfl) ?_
          refine lv_iconst (v := 1) hx hb dL_law_656 (by decide) ?_
          refine lv_iadd hx hb dL_law_657 ?_
          refine lv_topi (fun x_203 ex_203 => ?_)
          have fx_203 : x_203.toInt = i.toInt + 1 := by rw [ex_203]; exact I_add rfl (by decide : (1 : Int32).toInt = 1) (by omega) (by omega)
          refine va_sld hx hb hXs hbl hbA hS (i := x_203) (vp_in_iff.mpr (by omega)) dL_law_658 ?_
          refine lv_topi (fun x_204 ex_204 => ?_)
          refine lv_aload_n hx hb dL_law_659 rfl (lv_at hl 3 rfl) ?_
          refine lv_iload_n hx hb dL_law_660 rfl (lv_at hl 0 rfl) ?_
          refine lv_iconst (v := 2) hx hb dL_law_661 (by decide) ?_
          refine lv_iadd hx hb dL_law_662 ?_
          refine lv_topi (fun x_205 ex_205 => ?_)
          have fx_205 : x_205.toInt = i.toInt + 2 := by rw [ex_205]; exact I_add rfl (by decide : (2 : Int32).toInt = 2) (by omega) (by omega)
          refine va_sld hx hb hXs hbl hbA hS (i := x_205) (vp_in_iff.mpr (by omega)) dL_law_663 ?_
          refine lv_topi (fun x_206 ex_206 => ?_)
          refine k_iW (k_VW (n := 2) ⟨hx, hb, hml, hown, hT⟩ hK hP hD (lift_r (X' := nX) (wr := wX g u_202) (mL_rent l g H.size v hv x_204 x_206) (fun _ _ _ _ _ _ => trivial)) (gV bw_1524 bw_1525 bw_1526 bw_840 bw_990) rfl rfl (by decide +kernel) ⟨by decide, by decide⟩ (ci := 12) rfl (List.mem_append_right _ List.mem_cons_self) (fun _ _ _ _ _ => trivial) (fun _ _ _ => trivial) rfl rfl hl.1 (Nat.le_of_ble_eq_true rfl) dL_law_664 ⟨by decide, by decide⟩) hD hS hA (fun r_207 v_208 H locs hw hP hD hS => ?_)
          obtain ⟨hv_208, hev_208, htv_208⟩ := hw
          have hl : lv_has ls 4 [(3, .int i), (2, .ref (v_208.1 0)), (1, .ref (u_202.1 0)), (0, .ref b)] := by rw [hev_208]; exact hl
          refine lv_pop hx hb dL_law_667 rfl ?_
          refine lv_goto (tgt := 1217) hx hb dL_law_668 (by decide) ?_
          obtain ⟨x_209, ex_209⟩ : ∃ y : Int32, y = i + 6 := ⟨_, rfl⟩
          have fx_209 : x_209.toInt = i.toInt + 6 := by rw [ex_209]; exact I_add rfl (by decide) (by omega) (by omega)
          refine lv_iinc (v := x_209) (lv' := [(3, .int x_209), (2, .ref (v_208.1 0)), (1, .ref (u_202.1 0)), (0, .ref b)]) hx hb dL_law_1217 hl (k := 0) rfl (by rw [ex_209]; rfl) (by decide) rfl (fun ls hl => ?_)
          refine lv_goto (tgt := 18) hx hb dL_law_1220 (by decide) ?_
          exact ih (n - 1) (by omega) H locs ls ⟨u_202, v_208, x_209, hu_202, hv_208, (htu_202.trans (htt.trans htv_208.symm)), by omega, by omega, hP, hD, hS, lv_sub hl [0, 1, 2, 3] rfl⟩
        · refine k_iW (k_VW (n := 2) ⟨hx, hb, hml, hown, hT⟩ hK hP hD (lift_l (X' := nX) (wr := wM g v) (xL_rent_h l g H.size u hu x_198 x_200 hcc) (fun _ _ _ _ _ _ => trivial)) (gV bw_1521 bw_1522 bw_1523 bw_395 bw_513) rfl rfl (by decide +kernel) ⟨by decide, by decide⟩ (ci := 11) rfl (List.mem_append_left _ (List.mem_append_left _ List.mem_cons_self)) (fun _ _ _ _ _ => trivial) (fun _ _ _ => trivial) rfl rfl hl.1 (Nat.le_of_ble_eq_true rfl) dL_law_649 ⟨by decide, by decide⟩) hD hS hA (fun r_210 u_211 H locs hw hP hD hS => ?_)
          obtain ⟨hu_211, heu_211, htu_211⟩ := hw
          have hl : lv_has ls 4 [(3, .int i), (2, .ref (v.1 0)), (1, .ref (u_211.1 0)), (0, .ref b)] := by rw [heu_211]; exact hl
          refine lv_pop hx hb dL_law_652 rfl ?_
          refine lv_aload_n hx hb dL_law_653 rfl (lv_at hl 1 rfl) ?_
          refine lv_aload_n hx hb dL_law_654 rfl (lv_at hl 3 rfl) ?_
          refine lv_iload_n hx hb dL_law_655 rfl (lv_at hl 0 rfl) ?_
          refine lv_iconst (v := 1) hx hb dL_law_656 (by decide) ?_
          refine lv_iadd hx hb dL_law_657 ?_
          refine lv_topi (fun x_212 ex_212 => ?_)
          have fx_212 : x_212.toInt = i.toInt + 1 := by rw [ex_212]; exact I_add rfl (by decide : (1 : Int32).toInt = 1) (by omega) (by omega)
          refine va_sld hx hb hXs hbl hbA hS (i := x_212) (vp_in_iff.mpr (by omega)) dL_law_658 ?_
          refine lv_topi (fun x_213 ex_213 => ?_)
          refine lv_aload_n hx hb dL_law_659 rfl (lv_at hl 3 rfl) ?_
          refine lv_iload_n hx hb dL_law_660 rfl (lv_at hl 0 rfl) ?_
          refine lv_iconst (v := 2) hx hb dL_law_661 (by decide) ?_
          refine lv_iadd hx hb dL_law_662 ?_
          refine lv_topi (fun x_214 ex_214 => ?_)
          have fx_214 : x_214.toInt = i.toInt + 2 := by rw [ex_214]; exact I_add rfl (by decide : (2 : Int32).toInt = 2) (by omega) (by omega)
          refine va_sld hx hb hXs hbl hbA hS (i := x_214) (vp_in_iff.mpr (by omega)) dL_law_663 ?_
          refine lv_topi (fun x_215 ex_215 => ?_)
          refine k_iW (k_VW (n := 2) ⟨hx, hb, hml, hown, hT⟩ hK hP hD (lift_r (X' := nX) (wr := wX g u_211) (mL_rent l g H.size v hv x_213 x_215) (fun _ _ _ _ _ _ => trivial)) (gV bw_1524 bw_1525 bw_1526 bw_840 bw_990) rfl rfl (by decide +kernel) ⟨by decide, by decide⟩ (ci := 12) rfl (List.mem_append_right _ List.mem_cons_self) (fun _ _ _ _ _ => trivial) (fun _ _ _ => trivial) rfl rfl hl.1 (Nat.le_of_ble_eq_true rfl) dL_law_664 ⟨by decide, by decide⟩) hD hS hA (fun r_216 v_217 H locs hw hP hD hS => ?_)
          obtain ⟨hv_217, hev_217, htv_217⟩ := hw
          have hl : lv_has ls 4 [(3, .int i), (2, .ref (v_217.1 0)), (1, .ref (u_211.1 0)), (0, .ref b)] := by rw [hev_217]; exact hl
          refine lv_pop hx hb dL_law_667 rfl ?_
          refine lv_goto (tgt := 1217) hx hb dL_law_668 (by decide) ?_
          obtain ⟨x_218, ex_218⟩ : ∃ y : Int32, y = i + 6 := ⟨_, rfl⟩
          have fx_218 : x_218.toInt = i.toInt + 6 := by rw [ex_218]; exact I_add rfl (by decide) (by omega) (by omega)
          refine lv_iinc (v := x_218) (lv' := [(3, .int x_218), (2, .ref (v_217.1 0)), (1, .ref (u_211.1 0)), (0, .ref b)]) hx hb dL_law_1217 hl (k := 0) rfl (by rw [ex_218]; rfl) (by decide) rfl (fun ls hl => ?_)
          refine lv_goto (tgt := 18) hx hb dL_law_1220 (by decide) ?_
          exact ih (n - 1) (by omega) H locs ls ⟨u_211, v_217, x_218, hu_211, hv_217, (htu_211.trans (htt.trans htv_217.symm)), by omega, by omega, hP, hD, hS, lv_sub hl [0, 1, 2, 3] rfl⟩
      · obtain rfl : x_9 = 15 := eh_10
        refine lv_tableIn (tgt := 671) hx hb dL_law_33 (by decide) (by decide) (off := 638) (by decide) (by decide) ?_
        refine lv_aload_n hx hb dL_law_671 rfl (lv_at hl 2 rfl) ?_
        refine lv_aload_n hx hb dL_law_672 rfl (lv_at hl 3 rfl) ?_
        refine lv_iload_n hx hb dL_law_673 rfl (lv_at hl 0 rfl) ?_
        refine lv_iconst (v := 1) hx hb dL_law_674 (by decide) ?_
        refine lv_iadd hx hb dL_law_675 ?_
        refine lv_topi (fun x_219 ex_219 => ?_)
        have fx_219 : x_219.toInt = i.toInt + 1 := by rw [ex_219]; exact I_add rfl (by decide : (1 : Int32).toInt = 1) (by omega) (by omega)
        refine va_sld hx hb hXs hbl hbA hS (i := x_219) (vp_in_iff.mpr (by omega)) dL_law_676 ?_
        refine lv_topi (fun x_220 ex_220 => ?_)
        rcases (show (u.2.1 1).toInt ≤ 39 ∨ (u.2.1 1).toInt = 40 by have q9 := hu.2.1; omega) with hcc | hcc
        · refine k_iW (k_VW (n := 1) ⟨hx, hb, hml, hown, hT⟩ hK hP hD (lift_l (X' := nX) (wr := wM g v) (xL_strike_l l g H.size u hu x_220 hcc) (fun _ _ _ _ _ _ => trivial)) (gV bw_1527 bw_1528 bw_1529 bw_395 bw_515) rfl rfl (by decide +kernel) ⟨by decide, by decide⟩ (ci := 11) rfl (List.mem_append_left _ (List.mem_append_left _ List.mem_cons_self)) (fun _ _ _ _ _ => trivial) (fun _ _ _ => trivial) rfl rfl hl.1 (Nat.le_of_ble_eq_true rfl) dL_law_677 ⟨by decide, by decide⟩) hD hS hA (fun r_221 u_222 H locs hw hP hD hS => ?_)
          obtain ⟨hu_222, heu_222, htu_222⟩ := hw
          have hl : lv_has ls 4 [(3, .int i), (2, .ref (v.1 0)), (1, .ref (u_222.1 0)), (0, .ref b)] := by rw [heu_222]; exact hl
          refine lv_pop hx hb dL_law_680 rfl ?_
          refine lv_aload_n hx hb dL_law_681 rfl (lv_at hl 1 rfl) ?_
          refine lv_aload_n hx hb dL_law_682 rfl (lv_at hl 3 rfl) ?_
          refine lv_iload_n hx hb dL_law_683 rfl (lv_at hl 0 rfl) ?_
          refine lv_iconst (v := 1) hx hb dL_law_684 (by decide) ?_
          refine lv_iadd hx hb dL_law_685 ?_
          refine lv_topi (fun x_223 ex_223 => ?_)
          have fx_223 : x_223.toInt = i.toInt + 1 := by rw [ex_223]; exact I_add rfl (by decide : (1 : Int32).toInt = 1) (by omega) (by omega)
          refine va_sld hx hb hXs hbl hbA hS (i := x_223) (vp_in_iff.mpr (by omega)) dL_law_686 ?_
          refine lv_topi (fun x_224 ex_224 => ?_)
          refine k_iW (k_VW (n := 1) ⟨hx, hb, hml, hown, hT⟩ hK hP hD (lift_r (X' := nX) (wr := wX g u_222) (mL_strike l g H.size v hv x_224) (fun _ _ _ _ _ _ => trivial)) (gV bw_1530 bw_1531 bw_1532 bw_840 bw_991) rfl rfl (by decide +kernel) ⟨by decide, by decide⟩ (ci := 12) rfl (List.mem_append_right _ List.mem_cons_self) (fun _ _ _ _ _ => trivial) (fun _ _ _ => trivial) rfl rfl hl.1 (Nat.le_of_ble_eq_true rfl) dL_law_687 ⟨by decide, by decide⟩) hD hS hA (fun r_225 v_226 H locs hw hP hD hS => ?_)
          obtain ⟨hv_226, hev_226, htv_226⟩ := hw
          have hl : lv_has ls 4 [(3, .int i), (2, .ref (v_226.1 0)), (1, .ref (u_222.1 0)), (0, .ref b)] := by rw [hev_226]; exact hl
          refine lv_pop hx hb dL_law_690 rfl ?_
          refine lv_goto (tgt := 1217) hx hb dL_law_691 (by decide) ?_
          obtain ⟨x_227, ex_227⟩ : ∃ y : Int32, y = i + 6 := ⟨_, rfl⟩
          have fx_227 : x_227.toInt = i.toInt + 6 := by rw [ex_227]; exact I_add rfl (by decide) (by omega) (by omega)
          refine lv_iinc (v := x_227) (lv' := [(3, .int x_227), (2, .ref (v_226.1 0)), (1, .ref (u_222.1 0)), (0, .ref b)]) hx hb dL_law_1217 hl (k := 0) rfl (by rw [ex_227]; rfl) (by decide) rfl (fun ls hl => ?_)
          refine lv_goto (tgt := 18) hx hb dL_law_1220 (by decide) ?_
          exact ih (n - 1) (by omega) H locs ls ⟨u_222, v_226, x_227, hu_222, hv_226, (htu_222.trans (htt.trans htv_226.symm)), by omega, by omega, hP, hD, hS, lv_sub hl [0, 1, 2, 3] rfl⟩
        · refine k_iW (k_VW (n := 1) ⟨hx, hb, hml, hown, hT⟩ hK hP hD (lift_l (X' := nX) (wr := wM g v) (xL_strike_h l g H.size u hu x_220 hcc) (fun _ _ _ _ _ _ => trivial)) (gV bw_1527 bw_1528 bw_1529 bw_395 bw_515) rfl rfl (by decide +kernel) ⟨by decide, by decide⟩ (ci := 11) rfl (List.mem_append_left _ (List.mem_append_left _ List.mem_cons_self)) (fun _ _ _ _ _ => trivial) (fun _ _ _ => trivial) rfl rfl hl.1 (Nat.le_of_ble_eq_true rfl) dL_law_677 ⟨by decide, by decide⟩) hD hS hA (fun r_228 u_229 H locs hw hP hD hS => ?_)
          obtain ⟨hu_229, heu_229, htu_229⟩ := hw
          have hl : lv_has ls 4 [(3, .int i), (2, .ref (v.1 0)), (1, .ref (u_229.1 0)), (0, .ref b)] := by rw [heu_229]; exact hl
          refine lv_pop hx hb dL_law_680 rfl ?_
          refine lv_aload_n hx hb dL_law_681 rfl (lv_at hl 1 rfl) ?_
          refine lv_aload_n hx hb dL_law_682 rfl (lv_at hl 3 rfl) ?_
          refine lv_iload_n hx hb dL_law_683 rfl (lv_at hl 0 rfl) ?_
          refine lv_iconst (v := 1) hx hb dL_law_684 (by decide) ?_
          refine lv_iadd hx hb dL_law_685 ?_
          refine lv_topi (fun x_230 ex_230 => ?_)
          have fx_230 : x_230.toInt = i.toInt + 1 := by rw [ex_230]; exact I_add rfl (by decide : (1 : Int32).toInt = 1) (by omega) (by omega)
          refine va_sld hx hb hXs hbl hbA hS (i := x_230) (vp_in_iff.mpr (by omega)) dL_law_686 ?_
          refine lv_topi (fun x_231 ex_231 => ?_)
          refine k_iW (k_VW (n := 1) ⟨hx, hb, hml, hown, hT⟩ hK hP hD (lift_r (X' := nX) (wr := wX g u_229) (mL_strike l g H.size v hv x_231) (fun _ _ _ _ _ _ => trivial)) (gV bw_1530 bw_1531 bw_1532 bw_840 bw_991) rfl rfl (by decide +kernel) ⟨by decide, by decide⟩ (ci := 12) rfl (List.mem_append_right _ List.mem_cons_self) (fun _ _ _ _ _ => trivial) (fun _ _ _ => trivial) rfl rfl hl.1 (Nat.le_of_ble_eq_true rfl) dL_law_687 ⟨by decide, by decide⟩) hD hS hA (fun r_232 v_233 H locs hw hP hD hS => ?_)
          obtain ⟨hv_233, hev_233, htv_233⟩ := hw
          have hl : lv_has ls 4 [(3, .int i), (2, .ref (v_233.1 0)), (1, .ref (u_229.1 0)), (0, .ref b)] := by rw [hev_233]; exact hl
          refine lv_pop hx hb dL_law_690 rfl ?_
          refine lv_goto (tgt := 1217) hx hb dL_law_691 (by decide) ?_
          obtain ⟨x_234, ex_234⟩ : ∃ y : Int32, y = i + 6 := ⟨_, rfl⟩
          have fx_234 : x_234.toInt = i.toInt + 6 := by rw [ex_234]; exact I_add rfl (by decide) (by omega) (by omega)
          refine lv_iinc (v := x_234) (lv' := [(3, .int x_234), (2, .ref (v_233.1 0)), (1, .ref (u_229.1 0)), (0, .ref b)]) hx hb dL_law_1217 hl (k := 0) rfl (by rw [ex_234]; rfl) (by decide) rfl (fun ls hl => ?_)
          refine lv_goto (tgt := 18) hx hb dL_law_1220 (by decide) ?_
          exact ih (n - 1) (by omega) H locs ls ⟨u_229, v_233, x_234, hu_229, hv_233, (htu_229.trans (htt.trans htv_233.symm)), by omega, by omega, hP, hD, hS, lv_sub hl [0, 1, 2, 3] rfl⟩
      · obtain rfl : x_9 = 16 := eh_10
        refine lv_tableIn (tgt := 694) hx hb dL_law_33 (by decide) (by decide) (off := 661) (by decide) (by decide) ?_
        refine lv_aload_n hx hb dL_law_694 rfl (lv_at hl 2 rfl) ?_
        refine lv_aload_n hx hb dL_law_695 rfl (lv_at hl 3 rfl) ?_
        refine lv_iload_n hx hb dL_law_696 rfl (lv_at hl 0 rfl) ?_
        refine lv_iconst (v := 1) hx hb dL_law_697 (by decide) ?_
        refine lv_iadd hx hb dL_law_698 ?_
        refine lv_topi (fun x_235 ex_235 => ?_)
        have fx_235 : x_235.toInt = i.toInt + 1 := by rw [ex_235]; exact I_add rfl (by decide : (1 : Int32).toInt = 1) (by omega) (by omega)
        refine va_sld hx hb hXs hbl hbA hS (i := x_235) (vp_in_iff.mpr (by omega)) dL_law_699 ?_
        refine lv_topi (fun x_236 ex_236 => ?_)
        refine lv_aload_n hx hb dL_law_700 rfl (lv_at hl 3 rfl) ?_
        refine lv_iload_n hx hb dL_law_701 rfl (lv_at hl 0 rfl) ?_
        refine lv_iconst (v := 2) hx hb dL_law_702 (by decide) ?_
        refine lv_iadd hx hb dL_law_703 ?_
        refine lv_topi (fun x_237 ex_237 => ?_)
        have fx_237 : x_237.toInt = i.toInt + 2 := by rw [ex_237]; exact I_add rfl (by decide : (2 : Int32).toInt = 2) (by omega) (by omega)
        refine va_sld hx hb hXs hbl hbA hS (i := x_237) (vp_in_iff.mpr (by omega)) dL_law_704 ?_
        refine lv_topi (fun x_238 ex_238 => ?_)
        rcases (show (u.2.1 1).toInt ≤ 39 ∨ (u.2.1 1).toInt = 40 by have q9 := hu.2.1; omega) with hcc | hcc
        · refine k_iW (k_VW (n := 2) ⟨hx, hb, hml, hown, hT⟩ hK hP hD (lift_l (X' := nX) (wr := wM g v) (xL_insult_l l g H.size u hu x_236 x_238 hcc) (fun _ _ _ _ _ _ => trivial)) (gV bw_1533 bw_1534 bw_1535 bw_395 bw_519) rfl rfl (by decide +kernel) ⟨by decide, by decide⟩ (ci := 11) rfl (List.mem_append_left _ (List.mem_append_left _ List.mem_cons_self)) (fun _ _ _ _ _ => trivial) (fun _ _ _ => trivial) rfl rfl hl.1 (Nat.le_of_ble_eq_true rfl) dL_law_705 ⟨by decide, by decide⟩) hD hS hA (fun r_239 u_240 H locs hw hP hD hS => ?_)
          obtain ⟨hu_240, heu_240, htu_240⟩ := hw
          have hl : lv_has ls 4 [(3, .int i), (2, .ref (v.1 0)), (1, .ref (u_240.1 0)), (0, .ref b)] := by rw [heu_240]; exact hl
          refine lv_pop hx hb dL_law_708 rfl ?_
          refine lv_aload_n hx hb dL_law_709 rfl (lv_at hl 1 rfl) ?_
          refine lv_aload_n hx hb dL_law_710 rfl (lv_at hl 3 rfl) ?_
          refine lv_iload_n hx hb dL_law_711 rfl (lv_at hl 0 rfl) ?_
          refine lv_iconst (v := 1) hx hb dL_law_712 (by decide) ?_
          refine lv_iadd hx hb dL_law_713 ?_
          refine lv_topi (fun x_241 ex_241 => ?_)
          have fx_241 : x_241.toInt = i.toInt + 1 := by rw [ex_241]; exact I_add rfl (by decide : (1 : Int32).toInt = 1) (by omega) (by omega)
          refine va_sld hx hb hXs hbl hbA hS (i := x_241) (vp_in_iff.mpr (by omega)) dL_law_714 ?_
          refine lv_topi (fun x_242 ex_242 => ?_)
          refine lv_aload_n hx hb dL_law_715 rfl (lv_at hl 3 rfl) ?_
          refine lv_iload_n hx hb dL_law_716 rfl (lv_at hl 0 rfl) ?_
          refine lv_iconst (v := 2) hx hb dL_law_717 (by decide) ?_
          refine lv_iadd hx hb dL_law_718 ?_
          refine lv_topi (fun x_243 ex_243 => ?_)
          have fx_243 : x_243.toInt = i.toInt + 2 := by rw [ex_243]; exact I_add rfl (by decide : (2 : Int32).toInt = 2) (by omega) (by omega)
          refine va_sld hx hb hXs hbl hbA hS (i := x_243) (vp_in_iff.mpr (by omega)) dL_law_719 ?_
          refine lv_topi (fun x_244 ex_244 => ?_)
          refine k_iW (k_VW (n := 2) ⟨hx, hb, hml, hown, hT⟩ hK hP hD (lift_r (X' := nX) (wr := wX g u_240) (mL_insult l g H.size v hv x_242 x_244) (fun _ _ _ _ _ _ => trivial)) (gV bw_1536 bw_1537 bw_1538 bw_840 bw_996) rfl rfl (by decide +kernel) ⟨by decide, by decide⟩ (ci := 12) rfl (List.mem_append_right _ List.mem_cons_self) (fun _ _ _ _ _ => trivial) (fun _ _ _ => trivial) rfl rfl hl.1 (Nat.le_of_ble_eq_true rfl) dL_law_720 ⟨by decide, by decide⟩) hD hS hA (fun r_245 v_246 H locs hw hP hD hS => ?_)
          obtain ⟨hv_246, hev_246, htv_246⟩ := hw
          have hl : lv_has ls 4 [(3, .int i), (2, .ref (v_246.1 0)), (1, .ref (u_240.1 0)), (0, .ref b)] := by rw [hev_246]; exact hl
          refine lv_pop hx hb dL_law_723 rfl ?_
          refine lv_goto (tgt := 1217) hx hb dL_law_724 (by decide) ?_
          obtain ⟨x_247, ex_247⟩ : ∃ y : Int32, y = i + 6 := ⟨_, rfl⟩
          have fx_247 : x_247.toInt = i.toInt + 6 := by rw [ex_247]; exact I_add rfl (by decide) (by omega) (by omega)
          refine lv_iinc (v := x_247) (lv' := [(3, .int x_247), (2, .ref (v_246.1 0)), (1, .ref (u_240.1 0)), (0, .ref b)]) hx hb dL_law_1217 hl (k := 0) rfl (by rw [ex_247]; rfl) (by decide) rfl (fun ls hl => ?_)
          refine lv_goto (tgt := 18) hx hb dL_law_1220 (by decide) ?_
          exact ih (n - 1) (by omega) H locs ls ⟨u_240, v_246, x_247, hu_240, hv_246, (htu_240.trans (htt.trans htv_246.symm)), by omega, by omega, hP, hD, hS, lv_sub hl [0, 1, 2, 3] rfl⟩
        · refine k_iW (k_VW (n := 2) ⟨hx, hb, hml, hown, hT⟩ hK hP hD (lift_l (X' := nX) (wr := wM g v) (xL_insult_h l g H.size u hu x_236 x_238 hcc) (fun _ _ _ _ _ _ => trivial)) (gV bw_1533 bw_1534 bw_1535 bw_395 bw_519) rfl rfl (by decide +kernel) ⟨by decide, by decide⟩ (ci := 11) rfl (List.mem_append_left _ (List.mem_append_left _ List.mem_cons_self)) (fun _ _ _ _ _ => trivial) (fun _ _ _ => trivial) rfl rfl hl.1 (Nat.le_of_ble_eq_true rfl) dL_law_705 ⟨by decide, by decide⟩) hD hS hA (fun r_248 u_249 H locs hw hP hD hS => ?_)
          obtain ⟨hu_249, heu_249, htu_249⟩ := hw
          have hl : lv_has ls 4 [(3, .int i), (2, .ref (v.1 0)), (1, .ref (u_249.1 0)), (0, .ref b)] := by rw [heu_249]; exact hl
          refine lv_pop hx hb dL_law_708 rfl ?_
          refine lv_aload_n hx hb dL_law_709 rfl (lv_at hl 1 rfl) ?_
          refine lv_aload_n hx hb dL_law_710 rfl (lv_at hl 3 rfl) ?_
          refine lv_iload_n hx hb dL_law_711 rfl (lv_at hl 0 rfl) ?_
          refine lv_iconst (v := 1) hx hb dL_law_712 (by decide) ?_
          refine lv_iadd hx hb dL_law_713 ?_
          refine lv_topi (fun x_250 ex_250 => ?_)
          have fx_250 : x_250.toInt = i.toInt + 1 := by rw [ex_250]; exact I_add rfl (by decide : (1 : Int32).toInt = 1) (by omega) (by omega)
          refine va_sld hx hb hXs hbl hbA hS (i := x_250) (vp_in_iff.mpr (by omega)) dL_law_714 ?_
          refine lv_topi (fun x_251 ex_251 => ?_)
          refine lv_aload_n hx hb dL_law_715 rfl (lv_at hl 3 rfl) ?_
          refine lv_iload_n hx hb dL_law_716 rfl (lv_at hl 0 rfl) ?_
          refine lv_iconst (v := 2) hx hb dL_law_717 (by decide) ?_
          refine lv_iadd hx hb dL_law_718 ?_
          refine lv_topi (fun x_252 ex_252 => ?_)
          have fx_252 : x_252.toInt = i.toInt + 2 := by rw [ex_252]; exact I_add rfl (by decide : (2 : Int32).toInt = 2) (by omega) (by omega)
          refine va_sld hx hb hXs hbl hbA hS (i := x_252) (vp_in_iff.mpr (by omega)) dL_law_719 ?_
          refine lv_topi (fun x_253 ex_253 => ?_)
          refine k_iW (k_VW (n := 2) ⟨hx, hb, hml, hown, hT⟩ hK hP hD (lift_r (X' := nX) (wr := wX g u_249) (mL_insult l g H.size v hv x_251 x_253) (fun _ _ _ _ _ _ => trivial)) (gV bw_1536 bw_1537 bw_1538 bw_840 bw_996) rfl rfl (by decide +kernel) ⟨by decide, by decide⟩ (ci := 12) rfl (List.mem_append_right _ List.mem_cons_self) (fun _ _ _ _ _ => trivial) (fun _ _ _ => trivial) rfl rfl hl.1 (Nat.le_of_ble_eq_true rfl) dL_law_720 ⟨by decide, by decide⟩) hD hS hA (fun r_254 v_255 H locs hw hP hD hS => ?_)
          obtain ⟨hv_255, hev_255, htv_255⟩ := hw
          have hl : lv_has ls 4 [(3, .int i), (2, .ref (v_255.1 0)), (1, .ref (u_249.1 0)), (0, .ref b)] := by rw [hev_255]; exact hl
          refine lv_pop hx hb dL_law_723 rfl ?_
          refine lv_goto (tgt := 1217) hx hb dL_law_724 (by decide) ?_
          obtain ⟨x_256, ex_256⟩ : ∃ y : Int32, y = i + 6 := ⟨_, rfl⟩
          have fx_256 : x_256.toInt = i.toInt + 6 := by rw [ex_256]; exact I_add rfl (by decide) (by omega) (by omega)
          refine lv_iinc (v := x_256) (lv' := [(3, .int x_256), (2, .ref (v_255.1 0)), (1, .ref (u_249.1 0)), (0, .ref b)]) hx hb dL_law_1217 hl (k := 0) rfl (by rw [ex_256]; rfl) (by decide) rfl (fun ls hl => ?_)
          refine lv_goto (tgt := 18) hx hb dL_law_1220 (by decide) ?_
          exact ih (n - 1) (by omega) H locs ls ⟨u_249, v_255, x_256, hu_249, hv_255, (htu_249.trans (htt.trans htv_255.symm)), by omega, by omega, hP, hD, hS, lv_sub hl [0, 1, 2, 3] rfl⟩
      · obtain rfl : x_9 = 17 := eh_10
        refine lv_tableIn (tgt := 727) hx hb dL_law_33 (by decide) (by decide) (off := 694) (by decide) (by decide) ?_
        refine lv_aload_n hx hb dL_law_727 rfl (lv_at hl 2 rfl) ?_
        refine lv_aload_n hx hb dL_law_728 rfl (lv_at hl 3 rfl) ?_
        refine lv_iload_n hx hb dL_law_729 rfl (lv_at hl 0 rfl) ?_
        refine lv_iconst (v := 1) hx hb dL_law_730 (by decide) ?_
        refine lv_iadd hx hb dL_law_731 ?_
        refine lv_topi (fun x_257 ex_257 => ?_)
        have fx_257 : x_257.toInt = i.toInt + 1 := by rw [ex_257]; exact I_add rfl (by decide : (1 : Int32).toInt = 1) (by omega) (by omega)
        refine va_sld hx hb hXs hbl hbA hS (i := x_257) (vp_in_iff.mpr (by omega)) dL_law_732 ?_
        refine lv_topi (fun x_258 ex_258 => ?_)
        rcases (show (u.2.1 1).toInt ≤ 39 ∨ (u.2.1 1).toInt = 40 by have q9 := hu.2.1; omega) with hcc | hcc
        · refine k_iW (k_VW (n := 1) ⟨hx, hb, hml, hown, hT⟩ hK hP hD (lift_l (X' := nX) (wr := wM g v) (xL_days_l l g H.size u hu x_258 hcc) (fun _ _ _ _ _ _ => trivial)) (gV bw_1539 bw_1540 bw_1541 bw_395 bw_523) rfl rfl (by decide +kernel) ⟨by decide, by decide⟩ (ci := 11) rfl (List.mem_append_left _ (List.mem_append_left _ List.mem_cons_self)) (fun _ _ _ _ _ => trivial) (fun _ _ _ => trivial) rfl rfl hl.1 (Nat.le_of_ble_eq_true rfl) dL_law_733 ⟨by decide, by decide⟩) hD hS hA (fun r_259 u_260 H locs hw hP hD hS => ?_)
          obtain ⟨hu_260, heu_260, htu_260⟩ := hw
          have hl : lv_has ls 4 [(3, .int i), (2, .ref (v.1 0)), (1, .ref (u_260.1 0)), (0, .ref b)] := by rw [heu_260]; exact hl
          refine lv_pop hx hb dL_law_736 rfl ?_
          refine lv_aload_n hx hb dL_law_737 rfl (lv_at hl 1 rfl) ?_
          refine lv_aload_n hx hb dL_law_738 rfl (lv_at hl 3 rfl) ?_
          refine lv_iload_n hx hb dL_law_739 rfl (lv_at hl 0 rfl) ?_
          refine lv_iconst (v := 1) hx hb dL_law_740 (by decide) ?_
          refine lv_iadd hx hb dL_law_741 ?_
          refine lv_topi (fun x_261 ex_261 => ?_)
          have fx_261 : x_261.toInt = i.toInt + 1 := by rw [ex_261]; exact I_add rfl (by decide : (1 : Int32).toInt = 1) (by omega) (by omega)
          refine va_sld hx hb hXs hbl hbA hS (i := x_261) (vp_in_iff.mpr (by omega)) dL_law_742 ?_
          refine lv_topi (fun x_262 ex_262 => ?_)
          refine k_iW (k_VW (n := 1) ⟨hx, hb, hml, hown, hT⟩ hK hP hD (lift_r (X' := nX) (wr := wX g u_260) (mL_days l g H.size v hv x_262) (fun _ _ _ _ _ _ => trivial)) (gV bw_1542 bw_1543 bw_1544 bw_840 bw_1009) rfl rfl (by decide +kernel) ⟨by decide, by decide⟩ (ci := 12) rfl (List.mem_append_right _ List.mem_cons_self) (fun _ _ _ _ _ => trivial) (fun _ _ _ => trivial) rfl rfl hl.1 (Nat.le_of_ble_eq_true rfl) dL_law_743 ⟨by decide, by decide⟩) hD hS hA (fun r_263 v_264 H locs hw hP hD hS => ?_)
          obtain ⟨hv_264, hev_264, htv_264⟩ := hw
          have hl : lv_has ls 4 [(3, .int i), (2, .ref (v_264.1 0)), (1, .ref (u_260.1 0)), (0, .ref b)] := by rw [hev_264]; exact hl
          refine lv_pop hx hb dL_law_746 rfl ?_
          refine lv_goto (tgt := 1217) hx hb dL_law_747 (by decide) ?_
          obtain ⟨x_265, ex_265⟩ : ∃ y : Int32, y = i + 6 := ⟨_, rfl⟩
          have fx_265 : x_265.toInt = i.toInt + 6 := by rw [ex_265]; exact I_add rfl (by decide) (by omega) (by omega)
          refine lv_iinc (v := x_265) (lv' := [(3, .int x_265), (2, .ref (v_264.1 0)), (1, .ref (u_260.1 0)), (0, .ref b)]) hx hb dL_law_1217 hl (k := 0) rfl (by rw [ex_265]; rfl) (by decide) rfl (fun ls hl => ?_)
          refine lv_goto (tgt := 18) hx hb dL_law_1220 (by decide) ?_
          exact ih (n - 1) (by omega) H locs ls ⟨u_260, v_264, x_265, hu_260, hv_264, (htu_260.trans (htt.trans htv_264.symm)), by omega, by omega, hP, hD, hS, lv_sub hl [0, 1, 2, 3] rfl⟩
        · refine k_iW (k_VW (n := 1) ⟨hx, hb, hml, hown, hT⟩ hK hP hD (lift_l (X' := nX) (wr := wM g v) (xL_days_h l g H.size u hu x_258 hcc) (fun _ _ _ _ _ _ => trivial)) (gV bw_1539 bw_1540 bw_1541 bw_395 bw_523) rfl rfl (by decide +kernel) ⟨by decide, by decide⟩ (ci := 11) rfl (List.mem_append_left _ (List.mem_append_left _ List.mem_cons_self)) (fun _ _ _ _ _ => trivial) (fun _ _ _ => trivial) rfl rfl hl.1 (Nat.le_of_ble_eq_true rfl) dL_law_733 ⟨by decide, by decide⟩) hD hS hA (fun r_266 u_267 H locs hw hP hD hS => ?_)
          obtain ⟨hu_267, heu_267, htu_267⟩ := hw
          have hl : lv_has ls 4 [(3, .int i), (2, .ref (v.1 0)), (1, .ref (u_267.1 0)), (0, .ref b)] := by rw [heu_267]; exact hl
          refine lv_pop hx hb dL_law_736 rfl ?_
          refine lv_aload_n hx hb dL_law_737 rfl (lv_at hl 1 rfl) ?_
          refine lv_aload_n hx hb dL_law_738 rfl (lv_at hl 3 rfl) ?_
          refine lv_iload_n hx hb dL_law_739 rfl (lv_at hl 0 rfl) ?_
          refine lv_iconst (v := 1) hx hb dL_law_740 (by decide) ?_
          refine lv_iadd hx hb dL_law_741 ?_
          refine lv_topi (fun x_268 ex_268 => ?_)
          have fx_268 : x_268.toInt = i.toInt + 1 := by rw [ex_268]; exact I_add rfl (by decide : (1 : Int32).toInt = 1) (by omega) (by omega)
          refine va_sld hx hb hXs hbl hbA hS (i := x_268) (vp_in_iff.mpr (by omega)) dL_law_742 ?_
          refine lv_topi (fun x_269 ex_269 => ?_)
          refine k_iW (k_VW (n := 1) ⟨hx, hb, hml, hown, hT⟩ hK hP hD (lift_r (X' := nX) (wr := wX g u_267) (mL_days l g H.size v hv x_269) (fun _ _ _ _ _ _ => trivial)) (gV bw_1542 bw_1543 bw_1544 bw_840 bw_1009) rfl rfl (by decide +kernel) ⟨by decide, by decide⟩ (ci := 12) rfl (List.mem_append_right _ List.mem_cons_self) (fun _ _ _ _ _ => trivial) (fun _ _ _ => trivial) rfl rfl hl.1 (Nat.le_of_ble_eq_true rfl) dL_law_743 ⟨by decide, by decide⟩) hD hS hA (fun r_270 v_271 H locs hw hP hD hS => ?_)
          obtain ⟨hv_271, hev_271, htv_271⟩ := hw
          have hl : lv_has ls 4 [(3, .int i), (2, .ref (v_271.1 0)), (1, .ref (u_267.1 0)), (0, .ref b)] := by rw [hev_271]; exact hl
          refine lv_pop hx hb dL_law_746 rfl ?_
          refine lv_goto (tgt := 1217) hx hb dL_law_747 (by decide) ?_
          obtain ⟨x_272, ex_272⟩ : ∃ y : Int32, y = i + 6 := ⟨_, rfl⟩
          have fx_272 : x_272.toInt = i.toInt + 6 := by rw [ex_272]; exact I_add rfl (by decide) (by omega) (by omega)
          refine lv_iinc (v := x_272) (lv' := [(3, .int x_272), (2, .ref (v_271.1 0)), (1, .ref (u_267.1 0)), (0, .ref b)]) hx hb dL_law_1217 hl (k := 0) rfl (by rw [ex_272]; rfl) (by decide) rfl (fun ls hl => ?_)
          refine lv_goto (tgt := 18) hx hb dL_law_1220 (by decide) ?_
          exact ih (n - 1) (by omega) H locs ls ⟨u_267, v_271, x_272, hu_267, hv_271, (htu_267.trans (htt.trans htv_271.symm)), by omega, by omega, hP, hD, hS, lv_sub hl [0, 1, 2, 3] rfl⟩
      · obtain rfl : x_9 = 18 := eh_10
        refine lv_tableIn (tgt := 750) hx hb dL_law_33 (by decide) (by decide) (off := 717) (by decide) (by decide) ?_
        refine lv_aload_n hx hb dL_law_750 rfl (lv_at hl 2 rfl) ?_
        refine k_iW (k_VW (n := 0) ⟨hx, hb, hml, hown, hT⟩ hK hP hD (lift_l (X' := nX) (wr := wM g v) (xL_undo l g H.size u hu) (fun _ _ _ _ _ _ => trivial)) (gV bw_1545 bw_1546 bw_1547 bw_395 bw_362) rfl rfl (by decide +kernel) ⟨by decide, by decide⟩ (ci := 11) rfl (List.mem_append_left _ (List.mem_append_left _ List.mem_cons_self)) (fun _ _ _ _ _ => trivial) (fun _ _ _ => trivial) rfl rfl hl.1 (Nat.le_of_ble_eq_true rfl) dL_law_751 ⟨by decide, by decide⟩) hD hS hA (fun r_273 u_274 H locs hw hP hD hS => ?_)
        obtain ⟨hu_274, heu_274, htu_274⟩ := hw
        have hl : lv_has ls 4 [(3, .int i), (2, .ref (v.1 0)), (1, .ref (u_274.1 0)), (0, .ref b)] := by rw [heu_274]; exact hl
        refine lv_pop hx hb dL_law_754 rfl ?_
        refine lv_aload_n hx hb dL_law_755 rfl (lv_at hl 1 rfl) ?_
        refine k_iW (k_VW (n := 0) ⟨hx, hb, hml, hown, hT⟩ hK hP hD (lift_r (X' := nX) (wr := wX g u_274) (mL_undo l g H.size v hv) (fun _ _ _ _ _ _ => trivial)) (gV bw_1548 bw_1549 bw_1550 bw_840 bw_1013) rfl rfl (by decide +kernel) ⟨by decide, by decide⟩ (ci := 12) rfl (List.mem_append_right _ List.mem_cons_self) (fun _ _ _ _ _ => trivial) (fun _ _ _ => trivial) rfl rfl hl.1 (Nat.le_of_ble_eq_true rfl) dL_law_756 ⟨by decide, by decide⟩) hD hS hA (fun r_275 v_276 H locs hw hP hD hS => ?_)
        obtain ⟨hv_276, hev_276, htv_276⟩ := hw
        have hl : lv_has ls 4 [(3, .int i), (2, .ref (v_276.1 0)), (1, .ref (u_274.1 0)), (0, .ref b)] := by rw [hev_276]; exact hl
        refine lv_pop hx hb dL_law_759 rfl ?_
        refine lv_goto (tgt := 1217) hx hb dL_law_760 (by decide) ?_
        obtain ⟨x_277, ex_277⟩ : ∃ y : Int32, y = i + 6 := ⟨_, rfl⟩
        have fx_277 : x_277.toInt = i.toInt + 6 := by rw [ex_277]; exact I_add rfl (by decide) (by omega) (by omega)
        refine lv_iinc (v := x_277) (lv' := [(3, .int x_277), (2, .ref (v_276.1 0)), (1, .ref (u_274.1 0)), (0, .ref b)]) hx hb dL_law_1217 hl (k := 0) rfl (by rw [ex_277]; rfl) (by decide) rfl (fun ls hl => ?_)
        refine lv_goto (tgt := 18) hx hb dL_law_1220 (by decide) ?_
        exact ih (n - 1) (by omega) H locs ls ⟨u_274, v_276, x_277, hu_274, hv_276, (htu_274.trans (htt.trans htv_276.symm)), by omega, by omega, hP, hD, hS, lv_sub hl [0, 1, 2, 3] rfl⟩
      · obtain rfl : x_9 = 19 := eh_10
        refine lv_tableIn (tgt := 763) hx hb dL_law_33 (by decide) (by decide) (off := 730) (by decide) (by decide) ?_
        refine lv_aload_n hx hb dL_law_763 rfl (lv_at hl 2 rfl) ?_
        refine k_iW (k_VW (n := 0) ⟨hx, hb, hml, hown, hT⟩ hK hP hD (lift_l (X' := nX) (wr := wM g v) (xL_redo l g H.size u hu) (fun _ _ _ _ _ _ => trivial)) (gV bw_1551 bw_1552 bw_1553 bw_395 bw_363) rfl rfl (by decide +kernel) ⟨by decide, by decide⟩ (ci := 11) rfl (List.mem_append_left _ (List.mem_append_left _ List.mem_cons_self)) (fun _ _ _ _ _ => trivial) (fun _ _ _ => trivial) rfl rfl hl.1 (Nat.le_of_ble_eq_true rfl) dL_law_764 ⟨by decide, by decide⟩) hD hS hA (fun r_278 u_279 H locs hw hP hD hS => ?_)
        obtain ⟨hu_279, heu_279, htu_279⟩ := hw
        have hl : lv_has ls 4 [(3, .int i), (2, .ref (v.1 0)), (1, .ref (u_279.1 0)), (0, .ref b)] := by rw [heu_279]; exact hl
        refine lv_pop hx hb dL_law_767 rfl ?_
        refine lv_aload_n hx hb dL_law_768 rfl (lv_at hl 1 rfl) ?_
        refine k_iW (k_VW (n := 0) ⟨hx, hb, hml, hown, hT⟩ hK hP hD (lift_r (X' := nX) (wr := wX g u_279) (mL_redo l g H.size v hv) (fun _ _ _ _ _ _ => trivial)) (gV bw_1554 bw_1555 bw_1556 bw_840 bw_1014) rfl rfl (by decide +kernel) ⟨by decide, by decide⟩ (ci := 12) rfl (List.mem_append_right _ List.mem_cons_self) (fun _ _ _ _ _ => trivial) (fun _ _ _ => trivial) rfl rfl hl.1 (Nat.le_of_ble_eq_true rfl) dL_law_769 ⟨by decide, by decide⟩) hD hS hA (fun r_280 v_281 H locs hw hP hD hS => ?_)
        obtain ⟨hv_281, hev_281, htv_281⟩ := hw
        have hl : lv_has ls 4 [(3, .int i), (2, .ref (v_281.1 0)), (1, .ref (u_279.1 0)), (0, .ref b)] := by rw [hev_281]; exact hl
        refine lv_pop hx hb dL_law_772 rfl ?_
        refine lv_goto (tgt := 1217) hx hb dL_law_773 (by decide) ?_
        obtain ⟨x_282, ex_282⟩ : ∃ y : Int32, y = i + 6 := ⟨_, rfl⟩
        have fx_282 : x_282.toInt = i.toInt + 6 := by rw [ex_282]; exact I_add rfl (by decide) (by omega) (by omega)
        refine lv_iinc (v := x_282) (lv' := [(3, .int x_282), (2, .ref (v_281.1 0)), (1, .ref (u_279.1 0)), (0, .ref b)]) hx hb dL_law_1217 hl (k := 0) rfl (by rw [ex_282]; rfl) (by decide) rfl (fun ls hl => ?_)
        refine lv_goto (tgt := 18) hx hb dL_law_1220 (by decide) ?_
        exact ih (n - 1) (by omega) H locs ls ⟨u_279, v_281, x_282, hu_279, hv_281, (htu_279.trans (htt.trans htv_281.symm)), by omega, by omega, hP, hD, hS, lv_sub hl [0, 1, 2, 3] rfl⟩
      · obtain rfl : x_9 = 20 := eh_10
        refine lv_tableIn (tgt := 776) hx hb dL_law_33 (by decide) (by decide) (off := 743) (by decide) (by decide) ?_
        refine lv_aload_n hx hb dL_law_776 rfl (lv_at hl 2 rfl) ?_
        refine lv_aload_n hx hb dL_law_777 rfl (lv_at hl 3 rfl) ?_
        refine lv_iload_n hx hb dL_law_778 rfl (lv_at hl 0 rfl) ?_
        refine lv_iconst (v := 1) hx hb dL_law_779 (by decide) ?_
        refine lv_iadd hx hb dL_law_780 ?_
        refine lv_topi (fun x_283 ex_283 => ?_)
        have fx_283 : x_283.toInt = i.toInt + 1 := by rw [ex_283]; exact I_add rfl (by decide : (1 : Int32).toInt = 1) (by omega) (by omega)
        refine va_sld hx hb hXs hbl hbA hS (i := x_283) (vp_in_iff.mpr (by omega)) dL_law_781 ?_
        refine lv_topi (fun x_284 ex_284 => ?_)
        refine k_iW (k_VW (n := 1) ⟨hx, hb, hml, hown, hT⟩ hK hP hD (lift_l (X' := nX) (wr := wM g v) (xL_life l g H.size u hu x_284) (fun _ _ _ _ _ _ => trivial)) (gV bw_1557 bw_1558 bw_1559 bw_395 bw_534) rfl rfl (by decide +kernel) ⟨by decide, by decide⟩ (ci := 11) rfl (List.mem_append_left _ (List.mem_append_left _ List.mem_cons_self)) (fun _ _ _ _ _ => trivial) (fun _ _ _ => trivial) rfl rfl hl.1 (Nat.le_of_ble_eq_true rfl) dL_law_782 ⟨by decide, by decide⟩) hD hS hA (fun r_285 u_286 H locs hw hP hD hS => ?_)
        obtain ⟨hu_286, heu_286, htu_286⟩ := hw
        have hl : lv_has ls 4 [(3, .int i), (2, .ref (v.1 0)), (1, .ref (u_286.1 0)), (0, .ref b)] := by rw [heu_286]; exact hl
        refine lv_pop hx hb dL_law_785 rfl ?_
        refine lv_aload_n hx hb dL_law_786 rfl (lv_at hl 1 rfl) ?_
        refine lv_aload_n hx hb dL_law_787 rfl (lv_at hl 3 rfl) ?_
        refine lv_iload_n hx hb dL_law_788 rfl (lv_at hl 0 rfl) ?_
        refine lv_iconst (v := 1) hx hb dL_law_789 (by decide) ?_
        refine lv_iadd hx hb dL_law_790 ?_
        refine lv_topi (fun x_287 ex_287 => ?_)
        have fx_287 : x_287.toInt = i.toInt + 1 := by rw [ex_287]; exact I_add rfl (by decide : (1 : Int32).toInt = 1) (by omega) (by omega)
        refine va_sld hx hb hXs hbl hbA hS (i := x_287) (vp_in_iff.mpr (by omega)) dL_law_791 ?_
        refine lv_topi (fun x_288 ex_288 => ?_)
        refine k_iW (k_VW (n := 1) ⟨hx, hb, hml, hown, hT⟩ hK hP hD (lift_r (X' := nX) (wr := wX g u_286) (mL_life l g H.size v hv x_288) (fun _ _ _ _ _ _ => trivial)) (gV bw_1560 bw_1561 bw_1562 bw_840 bw_1117) rfl rfl (by decide +kernel) ⟨by decide, by decide⟩ (ci := 12) rfl (List.mem_append_right _ List.mem_cons_self) (fun _ _ _ _ _ => trivial) (fun _ _ _ => trivial) rfl rfl hl.1 (Nat.le_of_ble_eq_true rfl) dL_law_792 ⟨by decide, by decide⟩) hD hS hA (fun r_289 v_290 H locs hw hP hD hS => ?_)
        obtain ⟨hv_290, hev_290, htv_290⟩ := hw
        have hl : lv_has ls 4 [(3, .int i), (2, .ref (v_290.1 0)), (1, .ref (u_286.1 0)), (0, .ref b)] := by rw [hev_290]; exact hl
        refine lv_pop hx hb dL_law_795 rfl ?_
        refine lv_goto (tgt := 1217) hx hb dL_law_796 (by decide) ?_
        obtain ⟨x_291, ex_291⟩ : ∃ y : Int32, y = i + 6 := ⟨_, rfl⟩
        have fx_291 : x_291.toInt = i.toInt + 6 := by rw [ex_291]; exact I_add rfl (by decide) (by omega) (by omega)
        refine lv_iinc (v := x_291) (lv' := [(3, .int x_291), (2, .ref (v_290.1 0)), (1, .ref (u_286.1 0)), (0, .ref b)]) hx hb dL_law_1217 hl (k := 0) rfl (by rw [ex_291]; rfl) (by decide) rfl (fun ls hl => ?_)
        refine lv_goto (tgt := 18) hx hb dL_law_1220 (by decide) ?_
        exact ih (n - 1) (by omega) H locs ls ⟨u_286, v_290, x_291, hu_286, hv_290, (htu_286.trans (htt.trans htv_290.symm)), by omega, by omega, hP, hD, hS, lv_sub hl [0, 1, 2, 3] rfl⟩
      · obtain rfl : x_9 = 21 := eh_10
        refine lv_tableIn (tgt := 799) hx hb dL_law_33 (by decide) (by decide) (off := 766) (by decide) (by decide) ?_
        refine lv_aload_n hx hb dL_law_799 rfl (lv_at hl 2 rfl) ?_
        refine lv_aload_n hx hb dL_law_800 rfl (lv_at hl 3 rfl) ?_
        refine lv_iload_n hx hb dL_law_801 rfl (lv_at hl 0 rfl) ?_
        refine lv_iconst (v := 1) hx hb dL_law_802 (by decide) ?_
        refine lv_iadd hx hb dL_law_803 ?_
        refine lv_topi (fun x_292 ex_292 => ?_)
        have fx_292 : x_292.toInt = i.toInt + 1 := by rw [ex_292]; exact I_add rfl (by decide : (1 : Int32).toInt = 1) (by omega) (by omega)
        refine va_sld hx hb hXs hbl hbA hS (i := x_292) (vp_in_iff.mpr (by omega)) dL_law_804 ?_
        refine lv_topi (fun x_293 ex_293 => ?_)
        refine lv_aload_n hx hb dL_law_805 rfl (lv_at hl 3 rfl) ?_
        refine lv_iload_n hx hb dL_law_806 rfl (lv_at hl 0 rfl) ?_
        refine lv_iconst (v := 2) hx hb dL_law_807 (by decide) ?_
        refine lv_iadd hx hb dL_law_808 ?_
        refine lv_topi (fun x_294 ex_294 => ?_)
        have fx_294 : x_294.toInt = i.toInt + 2 := by rw [ex_294]; exact I_add rfl (by decide : (2 : Int32).toInt = 2) (by omega) (by omega)
        refine va_sld hx hb hXs hbl hbA hS (i := x_294) (vp_in_iff.mpr (by omega)) dL_law_809 ?_
        refine lv_topi (fun x_295 ex_295 => ?_)
        refine k_iW (k_VW (n := 2) ⟨hx, hb, hml, hown, hT⟩ hK hP hD (lift_l (X' := nX) (wr := wM g v) (xL_late l g H.size u hu x_293 x_295) (fun _ _ _ _ _ _ => trivial)) (gV bw_1563 bw_1564 bw_1565 bw_395 bw_538) rfl rfl (by decide +kernel) ⟨by decide, by decide⟩ (ci := 11) rfl (List.mem_append_left _ (List.mem_append_left _ List.mem_cons_self)) (fun _ _ _ _ _ => trivial) (fun _ _ _ => trivial) rfl rfl hl.1 (Nat.le_of_ble_eq_true rfl) dL_law_810 ⟨by decide, by decide⟩) hD hS hA (fun r_296 u_297 H locs hw hP hD hS => ?_)
        obtain ⟨hu_297, heu_297, htu_297⟩ := hw
        have hl : lv_has ls 4 [(3, .int i), (2, .ref (v.1 0)), (1, .ref (u_297.1 0)), (0, .ref b)] := by rw [heu_297]; exact hl
        refine lv_pop hx hb dL_law_813 rfl ?_
        refine lv_aload_n hx hb dL_law_814 rfl (lv_at hl 1 rfl) ?_
        refine lv_aload_n hx hb dL_law_815 rfl (lv_at hl 3 rfl) ?_
        refine lv_iload_n hx hb dL_law_816 rfl (lv_at hl 0 rfl) ?_
        refine lv_iconst (v := 1) hx hb dL_law_817 (by decide) ?_
        refine lv_iadd hx hb dL_law_818 ?_
        refine lv_topi (fun x_298 ex_298 => ?_)
        have fx_298 : x_298.toInt = i.toInt + 1 := by rw [ex_298]; exact I_add rfl (by decide : (1 : Int32).toInt = 1) (by omega) (by omega)
        refine va_sld hx hb hXs hbl hbA hS (i := x_298) (vp_in_iff.mpr (by omega)) dL_law_819 ?_
        refine lv_topi (fun x_299 ex_299 => ?_)
        refine lv_aload_n hx hb dL_law_820 rfl (lv_at hl 3 rfl) ?_
        refine lv_iload_n hx hb dL_law_821 rfl (lv_at hl 0 rfl) ?_
        refine lv_iconst (v := 2) hx hb dL_law_822 (by decide) ?_
        refine lv_iadd hx hb dL_law_823 ?_
        refine lv_topi (fun x_300 ex_300 => ?_)
        have fx_300 : x_300.toInt = i.toInt + 2 := by rw [ex_300]; exact I_add rfl (by decide : (2 : Int32).toInt = 2) (by omega) (by omega)
        refine va_sld hx hb hXs hbl hbA hS (i := x_300) (vp_in_iff.mpr (by omega)) dL_law_824 ?_
        refine lv_topi (fun x_301 ex_301 => ?_)
        refine k_iW (k_VW (n := 2) ⟨hx, hb, hml, hown, hT⟩ hK hP hD (lift_r (X' := nX) (wr := wX g u_297) (mL_late l g H.size v hv x_299 x_301) (fun _ _ _ _ _ _ => trivial)) (gV bw_1566 bw_1567 bw_1568 bw_840 bw_1118) rfl rfl (by decide +kernel) ⟨by decide, by decide⟩ (ci := 12) rfl (List.mem_append_right _ List.mem_cons_self) (fun _ _ _ _ _ => trivial) (fun _ _ _ => trivial) rfl rfl hl.1 (Nat.le_of_ble_eq_true rfl) dL_law_825 ⟨by decide, by decide⟩) hD hS hA (fun r_302 v_303 H locs hw hP hD hS => ?_)
        obtain ⟨hv_303, hev_303, htv_303⟩ := hw
        have hl : lv_has ls 4 [(3, .int i), (2, .ref (v_303.1 0)), (1, .ref (u_297.1 0)), (0, .ref b)] := by rw [hev_303]; exact hl
        refine lv_pop hx hb dL_law_828 rfl ?_
        refine lv_goto (tgt := 1217) hx hb dL_law_829 (by decide) ?_
        obtain ⟨x_304, ex_304⟩ : ∃ y : Int32, y = i + 6 := ⟨_, rfl⟩
        have fx_304 : x_304.toInt = i.toInt + 6 := by rw [ex_304]; exact I_add rfl (by decide) (by omega) (by omega)
        refine lv_iinc (v := x_304) (lv' := [(3, .int x_304), (2, .ref (v_303.1 0)), (1, .ref (u_297.1 0)), (0, .ref b)]) hx hb dL_law_1217 hl (k := 0) rfl (by rw [ex_304]; rfl) (by decide) rfl (fun ls hl => ?_)
        refine lv_goto (tgt := 18) hx hb dL_law_1220 (by decide) ?_
        exact ih (n - 1) (by omega) H locs ls ⟨u_297, v_303, x_304, hu_297, hv_303, (htu_297.trans (htt.trans htv_303.symm)), by omega, by omega, hP, hD, hS, lv_sub hl [0, 1, 2, 3] rfl⟩
      · obtain rfl : x_9 = 22 := eh_10
        refine lv_tableIn (tgt := 832) hx hb dL_law_33 (by decide) (by decide) (off := 799) (by decide) (by decide) ?_
        refine lv_aload_n hx hb dL_law_832 rfl (lv_at hl 2 rfl) ?_
        refine lv_aload_n hx hb dL_law_833 rfl (lv_at hl 3 rfl) ?_
        refine lv_iload_n hx hb dL_law_834 rfl (lv_at hl 0 rfl) ?_
        refine lv_iconst (v := 1) hx hb dL_law_835 (by decide) ?_
        refine lv_iadd hx hb dL_law_836 ?_
        refine lv_topi (fun x_305 ex_305 => ?_)
        have fx_305 : x_305.toInt = i.toInt + 1 := by rw [ex_305]; exact I_add rfl (by decide : (1 : Int32).toInt = 1) (by omega) (by omega)
        refine va_sld hx hb hXs hbl hbA hS (i := x_305) (vp_in_iff.mpr (by omega)) dL_law_837 ?_
        refine lv_topi (fun x_306 ex_306 => ?_)
        refine lv_aload_n hx hb dL_law_838 rfl (lv_at hl 3 rfl) ?_
        refine lv_iload_n hx hb dL_law_839 rfl (lv_at hl 0 rfl) ?_
        refine lv_iconst (v := 2) hx hb dL_law_840 (by decide) ?_
        refine lv_iadd hx hb dL_law_841 ?_
        refine lv_topi (fun x_307 ex_307 => ?_)
        have fx_307 : x_307.toInt = i.toInt + 2 := by rw [ex_307]; exact I_add rfl (by decide : (2 : Int32).toInt = 2) (by omega) (by omega)
        refine va_sld hx hb hXs hbl hbA hS (i := x_307) (vp_in_iff.mpr (by omega)) dL_law_842 ?_
        refine lv_topi (fun x_308 ex_308 => ?_)
        refine k_iW (k_VW (n := 2) ⟨hx, hb, hml, hown, hT⟩ hK hP hD (lift_l (X' := nX) (wr := wM g v) (xL_last l g H.size u hu x_306 x_308) (fun _ _ _ _ _ _ => trivial)) (gV bw_1569 bw_1570 bw_1571 bw_395 bw_542) rfl rfl (by decide +kernel) ⟨by decide, by decide⟩ (ci := 11) rfl (List.mem_append_left _ (List.mem_append_left _ List.mem_cons_self)) (fun _ _ _ _ _ => trivial) (fun _ _ _ => trivial) rfl rfl hl.1 (Nat.le_of_ble_eq_true rfl) dL_law_843 ⟨by decide, by decide⟩) hD hS hA (fun r_309 u_310 H locs hw hP hD hS => ?_)
        obtain ⟨hu_310, heu_310, htu_310⟩ := hw
        have hl : lv_has ls 4 [(3, .int i), (2, .ref (v.1 0)), (1, .ref (u_310.1 0)), (0, .ref b)] := by rw [heu_310]; exact hl
        refine lv_pop hx hb dL_law_846 rfl ?_
        refine lv_aload_n hx hb dL_law_847 rfl (lv_at hl 1 rfl) ?_
        refine lv_aload_n hx hb dL_law_848 rfl (lv_at hl 3 rfl) ?_
        refine lv_iload_n hx hb dL_law_849 rfl (lv_at hl 0 rfl) ?_
        refine lv_iconst (v := 1) hx hb dL_law_850 (by decide) ?_
        refine lv_iadd hx hb dL_law_851 ?_
        refine lv_topi (fun x_311 ex_311 => ?_)
        have fx_311 : x_311.toInt = i.toInt + 1 := by rw [ex_311]; exact I_add rfl (by decide : (1 : Int32).toInt = 1) (by omega) (by omega)
        refine va_sld hx hb hXs hbl hbA hS (i := x_311) (vp_in_iff.mpr (by omega)) dL_law_852 ?_
        refine lv_topi (fun x_312 ex_312 => ?_)
        refine lv_aload_n hx hb dL_law_853 rfl (lv_at hl 3 rfl) ?_
        refine lv_iload_n hx hb dL_law_854 rfl (lv_at hl 0 rfl) ?_
        refine lv_iconst (v := 2) hx hb dL_law_855 (by decide) ?_
        refine lv_iadd hx hb dL_law_856 ?_
        refine lv_topi (fun x_313 ex_313 => ?_)
        have fx_313 : x_313.toInt = i.toInt + 2 := by rw [ex_313]; exact I_add rfl (by decide : (2 : Int32).toInt = 2) (by omega) (by omega)
        refine va_sld hx hb hXs hbl hbA hS (i := x_313) (vp_in_iff.mpr (by omega)) dL_law_857 ?_
        refine lv_topi (fun x_314 ex_314 => ?_)
        refine k_iW (k_VW (n := 2) ⟨hx, hb, hml, hown, hT⟩ hK hP hD (lift_r (X' := nX) (wr := wX g u_310) (mL_last l g H.size v hv x_312 x_314) (fun _ _ _ _ _ _ => trivial)) (gV bw_1572 bw_1573 bw_1574 bw_840 bw_1124) rfl rfl (by decide +kernel) ⟨by decide, by decide⟩ (ci := 12) rfl (List.mem_append_right _ List.mem_cons_self) (fun _ _ _ _ _ => trivial) (fun _ _ _ => trivial) rfl rfl hl.1 (Nat.le_of_ble_eq_true rfl) dL_law_858 ⟨by decide, by decide⟩) hD hS hA (fun r_315 v_316 H locs hw hP hD hS => ?_)
        obtain ⟨hv_316, hev_316, htv_316⟩ := hw
        have hl : lv_has ls 4 [(3, .int i), (2, .ref (v_316.1 0)), (1, .ref (u_310.1 0)), (0, .ref b)] := by rw [hev_316]; exact hl
        refine lv_pop hx hb dL_law_861 rfl ?_
        refine lv_goto (tgt := 1217) hx hb dL_law_862 (by decide) ?_
        obtain ⟨x_317, ex_317⟩ : ∃ y : Int32, y = i + 6 := ⟨_, rfl⟩
        have fx_317 : x_317.toInt = i.toInt + 6 := by rw [ex_317]; exact I_add rfl (by decide) (by omega) (by omega)
        refine lv_iinc (v := x_317) (lv' := [(3, .int x_317), (2, .ref (v_316.1 0)), (1, .ref (u_310.1 0)), (0, .ref b)]) hx hb dL_law_1217 hl (k := 0) rfl (by rw [ex_317]; rfl) (by decide) rfl (fun ls hl => ?_)
        refine lv_goto (tgt := 18) hx hb dL_law_1220 (by decide) ?_
        exact ih (n - 1) (by omega) H locs ls ⟨u_310, v_316, x_317, hu_310, hv_316, (htu_310.trans (htt.trans htv_316.symm)), by omega, by omega, hP, hD, hS, lv_sub hl [0, 1, 2, 3] rfl⟩
      · obtain rfl : x_9 = 23 := eh_10
        refine lv_tableIn (tgt := 865) hx hb dL_law_33 (by decide) (by decide) (off := 832) (by decide) (by decide) ?_
        refine lv_aload_n hx hb dL_law_865 rfl (lv_at hl 2 rfl) ?_
        refine lv_aload_n hx hb dL_law_866 rfl (lv_at hl 3 rfl) ?_
        refine lv_iload_n hx hb dL_law_867 rfl (lv_at hl 0 rfl) ?_
        refine lv_iconst (v := 1) hx hb dL_law_868 (by decide) ?_
        refine lv_iadd hx hb dL_law_869 ?_
        refine lv_topi (fun x_318 ex_318 => ?_)
        have fx_318 : x_318.toInt = i.toInt + 1 := by rw [ex_318]; exact I_add rfl (by decide : (1 : Int32).toInt = 1) (by omega) (by omega)
        refine va_sld hx hb hXs hbl hbA hS (i := x_318) (vp_in_iff.mpr (by omega)) dL_law_870 ?_
        refine lv_topi (fun x_319 ex_319 => ?_)
        refine k_iW (k_VW (n := 1) ⟨hx, hb, hml, hown, hT⟩ hK hP hD (lift_l (X' := nX) (wr := wM g v) (xL_shun l g H.size u hu x_319) (fun _ _ _ _ _ _ => trivial)) (gV bw_1575 bw_1576 bw_1577 bw_395 bw_545) rfl rfl (by decide +kernel) ⟨by decide, by decide⟩ (ci := 11) rfl (List.mem_append_left _ (List.mem_append_left _ List.mem_cons_self)) (fun _ _ _ _ _ => trivial) (fun _ _ _ => trivial) rfl rfl hl.1 (Nat.le_of_ble_eq_true rfl) dL_law_871 ⟨by decide, by decide⟩) hD hS hA (fun r_320 u_321 H locs hw hP hD hS => ?_)
        obtain ⟨hu_321, heu_321, htu_321⟩ := hw
        have hl : lv_has ls 4 [(3, .int i), (2, .ref (v.1 0)), (1, .ref (u_321.1 0)), (0, .ref b)] := by rw [heu_321]; exact hl
        refine lv_pop hx hb dL_law_874 rfl ?_
        refine lv_aload_n hx hb dL_law_875 rfl (lv_at hl 1 rfl) ?_
        refine lv_aload_n hx hb dL_law_876 rfl (lv_at hl 3 rfl) ?_
        refine lv_iload_n hx hb dL_law_877 rfl (lv_at hl 0 rfl) ?_
        refine lv_iconst (v := 1) hx hb dL_law_878 (by decide) ?_
        refine lv_iadd hx hb dL_law_879 ?_
        refine lv_topi (fun x_322 ex_322 => ?_)
        have fx_322 : x_322.toInt = i.toInt + 1 := by rw [ex_322]; exact I_add rfl (by decide : (1 : Int32).toInt = 1) (by omega) (by omega)
        refine va_sld hx hb hXs hbl hbA hS (i := x_322) (vp_in_iff.mpr (by omega)) dL_law_880 ?_
        refine lv_topi (fun x_323 ex_323 => ?_)
        refine k_iW (k_VW (n := 1) ⟨hx, hb, hml, hown, hT⟩ hK hP hD (lift_r (X' := nX) (wr := wX g u_321) (mL_shun l g H.size v hv x_323) (fun _ _ _ _ _ _ => trivial)) (gV bw_1578 bw_1579 bw_1580 bw_840 bw_1125) rfl rfl (by decide +kernel) ⟨by decide, by decide⟩ (ci := 12) rfl (List.mem_append_right _ List.mem_cons_self) (fun _ _ _ _ _ => trivial) (fun _ _ _ => trivial) rfl rfl hl.1 (Nat.le_of_ble_eq_true rfl) dL_law_881 ⟨by decide, by decide⟩) hD hS hA (fun r_324 v_325 H locs hw hP hD hS => ?_)
        obtain ⟨hv_325, hev_325, htv_325⟩ := hw
        have hl : lv_has ls 4 [(3, .int i), (2, .ref (v_325.1 0)), (1, .ref (u_321.1 0)), (0, .ref b)] := by rw [hev_325]; exact hl
        refine lv_pop hx hb dL_law_884 rfl ?_
        refine lv_goto (tgt := 1217) hx hb dL_law_885 (by decide) ?_
        obtain ⟨x_326, ex_326⟩ : ∃ y : Int32, y = i + 6 := ⟨_, rfl⟩
        have fx_326 : x_326.toInt = i.toInt + 6 := by rw [ex_326]; exact I_add rfl (by decide) (by omega) (by omega)
        refine lv_iinc (v := x_326) (lv' := [(3, .int x_326), (2, .ref (v_325.1 0)), (1, .ref (u_321.1 0)), (0, .ref b)]) hx hb dL_law_1217 hl (k := 0) rfl (by rw [ex_326]; rfl) (by decide) rfl (fun ls hl => ?_)
        refine lv_goto (tgt := 18) hx hb dL_law_1220 (by decide) ?_
        exact ih (n - 1) (by omega) H locs ls ⟨u_321, v_325, x_326, hu_321, hv_325, (htu_321.trans (htt.trans htv_325.symm)), by omega, by omega, hP, hD, hS, lv_sub hl [0, 1, 2, 3] rfl⟩
      · obtain rfl : x_9 = 24 := eh_10
        refine lv_tableIn (tgt := 888) hx hb dL_law_33 (by decide) (by decide) (off := 855) (by decide) (by decide) ?_
        refine lv_aload_n hx hb dL_law_888 rfl (lv_at hl 2 rfl) ?_
        refine lv_aload_n hx hb dL_law_889 rfl (lv_at hl 3 rfl) ?_
        refine lv_iload_n hx hb dL_law_890 rfl (lv_at hl 0 rfl) ?_
        refine lv_iconst (v := 1) hx hb dL_law_891 (by decide) ?_
        refine lv_iadd hx hb dL_law_892 ?_
        refine lv_topi (fun x_327 ex_327 => ?_)
        have fx_327 : x_327.toInt = i.toInt + 1 := by rw [ex_327]; exact I_add rfl (by decide : (1 : Int32).toInt = 1) (by omega) (by omega)
        refine va_sld hx hb hXs hbl hbA hS (i := x_327) (vp_in_iff.mpr (by omega)) dL_law_893 ?_
        refine lv_topi (fun x_328 ex_328 => ?_)
        refine lv_aload_n hx hb dL_law_894 rfl (lv_at hl 3 rfl) ?_
        refine lv_iload_n hx hb dL_law_895 rfl (lv_at hl 0 rfl) ?_
        refine lv_iconst (v := 2) hx hb dL_law_896 (by decide) ?_
        refine lv_iadd hx hb dL_law_897 ?_
        refine lv_topi (fun x_329 ex_329 => ?_)
        have fx_329 : x_329.toInt = i.toInt + 2 := by rw [ex_329]; exact I_add rfl (by decide : (2 : Int32).toInt = 2) (by omega) (by omega)
        refine va_sld hx hb hXs hbl hbA hS (i := x_329) (vp_in_iff.mpr (by omega)) dL_law_898 ?_
        refine lv_topi (fun x_330 ex_330 => ?_)
        refine k_iW (k_VW (n := 2) ⟨hx, hb, hml, hown, hT⟩ hK hP hD (lift_l (X' := nX) (wr := wM g v) (xL_hire l g H.size u hu x_328 x_330) (fun _ _ _ _ _ _ => trivial)) (gV bw_1581 bw_1582 bw_1583 bw_395 bw_553) rfl rfl (by decide +kernel) ⟨by decide, by decide⟩ (ci := 11) rfl (List.mem_append_left _ (List.mem_append_left _ List.mem_cons_self)) (fun _ _ _ _ _ => trivial) (fun _ _ _ => trivial) rfl rfl hl.1 (Nat.le_of_ble_eq_true rfl) dL_law_899 ⟨by decide, by decide⟩) hD hS hA (fun r_331 u_332 H locs hw hP hD hS => ?_)
        obtain ⟨hu_332, heu_332, htu_332⟩ := hw
        have hl : lv_has ls 4 [(3, .int i), (2, .ref (v.1 0)), (1, .ref (u_332.1 0)), (0, .ref b)] := by rw [heu_332]; exact hl
        refine lv_pop hx hb dL_law_902 rfl ?_
        refine lv_aload_n hx hb dL_law_903 rfl (lv_at hl 1 rfl) ?_
        refine lv_aload_n hx hb dL_law_904 rfl (lv_at hl 3 rfl) ?_
        refine lv_iload_n hx hb dL_law_905 rfl (lv_at hl 0 rfl) ?_
        refine lv_iconst (v := 1) hx hb dL_law_906 (by decide) ?_
        refine lv_iadd hx hb dL_law_907 ?_
        refine lv_topi (fun x_333 ex_333 => ?_)
        have fx_333 : x_333.toInt = i.toInt + 1 := by rw [ex_333]; exact I_add rfl (by decide : (1 : Int32).toInt = 1) (by omega) (by omega)
        refine va_sld hx hb hXs hbl hbA hS (i := x_333) (vp_in_iff.mpr (by omega)) dL_law_908 ?_
        refine lv_topi (fun x_334 ex_334 => ?_)
        refine lv_aload_n hx hb dL_law_909 rfl (lv_at hl 3 rfl) ?_
        refine lv_iload_n hx hb dL_law_910 rfl (lv_at hl 0 rfl) ?_
        refine lv_iconst (v := 2) hx hb dL_law_911 (by decide) ?_
        refine lv_iadd hx hb dL_law_912 ?_
        refine lv_topi (fun x_335 ex_335 => ?_)
        have fx_335 : x_335.toInt = i.toInt + 2 := by rw [ex_335]; exact I_add rfl (by decide : (2 : Int32).toInt = 2) (by omega) (by omega)
        refine va_sld hx hb hXs hbl hbA hS (i := x_335) (vp_in_iff.mpr (by omega)) dL_law_913 ?_
        refine lv_topi (fun x_336 ex_336 => ?_)
        refine k_iW (k_VW (n := 2) ⟨hx, hb, hml, hown, hT⟩ hK hP hD (lift_r (X' := nX) (wr := wX g u_332) (mL_hire l g H.size v hv x_334 x_336) (fun _ _ _ _ _ _ => trivial)) (gV bw_1584 bw_1585 bw_1586 bw_840 bw_1132) rfl rfl (by decide +kernel) ⟨by decide, by decide⟩ (ci := 12) rfl (List.mem_append_right _ List.mem_cons_self) (fun _ _ _ _ _ => trivial) (fun _ _ _ => trivial) rfl rfl hl.1 (Nat.le_of_ble_eq_true rfl) dL_law_914 ⟨by decide, by decide⟩) hD hS hA (fun r_337 v_338 H locs hw hP hD hS => ?_)
        obtain ⟨hv_338, hev_338, htv_338⟩ := hw
        have hl : lv_has ls 4 [(3, .int i), (2, .ref (v_338.1 0)), (1, .ref (u_332.1 0)), (0, .ref b)] := by rw [hev_338]; exact hl
        refine lv_pop hx hb dL_law_917 rfl ?_
        refine lv_goto (tgt := 1217) hx hb dL_law_918 (by decide) ?_
        obtain ⟨x_339, ex_339⟩ : ∃ y : Int32, y = i + 6 := ⟨_, rfl⟩
        have fx_339 : x_339.toInt = i.toInt + 6 := by rw [ex_339]; exact I_add rfl (by decide) (by omega) (by omega)
        refine lv_iinc (v := x_339) (lv' := [(3, .int x_339), (2, .ref (v_338.1 0)), (1, .ref (u_332.1 0)), (0, .ref b)]) hx hb dL_law_1217 hl (k := 0) rfl (by rw [ex_339]; rfl) (by decide) rfl (fun ls hl => ?_)
        refine lv_goto (tgt := 18) hx hb dL_law_1220 (by decide) ?_
        exact ih (n - 1) (by omega) H locs ls ⟨u_332, v_338, x_339, hu_332, hv_338, (htu_332.trans (htt.trans htv_338.symm)), by omega, by omega, hP, hD, hS, lv_sub hl [0, 1, 2, 3] rfl⟩
      · obtain rfl : x_9 = 25 := eh_10
        refine lv_tableIn (tgt := 921) hx hb dL_law_33 (by decide) (by decide) (off := 888) (by decide) (by decide) ?_
        refine lv_aload_n hx hb dL_law_921 rfl (lv_at hl 2 rfl) ?_
        refine lv_aload_n hx hb dL_law_922 rfl (lv_at hl 3 rfl) ?_
        refine lv_iload_n hx hb dL_law_923 rfl (lv_at hl 0 rfl) ?_
        refine lv_iconst (v := 1) hx hb dL_law_924 (by decide) ?_
        refine lv_iadd hx hb dL_law_925 ?_
        refine lv_topi (fun x_340 ex_340 => ?_)
        have fx_340 : x_340.toInt = i.toInt + 1 := by rw [ex_340]; exact I_add rfl (by decide : (1 : Int32).toInt = 1) (by omega) (by omega)
        refine va_sld hx hb hXs hbl hbA hS (i := x_340) (vp_in_iff.mpr (by omega)) dL_law_926 ?_
        refine lv_topi (fun x_341 ex_341 => ?_)
        refine k_iW (k_VW (n := 1) ⟨hx, hb, hml, hown, hT⟩ hK hP hD (lift_l (X' := nX) (wr := wM g v) (xL_clash l g H.size u hu x_341) (fun _ _ _ _ _ _ => trivial)) (gV bw_1587 bw_1588 bw_1589 bw_395 bw_320) rfl rfl (by decide +kernel) ⟨by decide, by decide⟩ (ci := 11) rfl (List.mem_append_left _ (List.mem_append_left _ List.mem_cons_self)) (fun _ _ _ _ _ => trivial) (fun _ _ _ => trivial) rfl rfl hl.1 (Nat.le_of_ble_eq_true rfl) dL_law_927 ⟨by decide, by decide⟩) hD hS hA (fun r_342 u_343 H locs hw hP hD hS => ?_)
        obtain ⟨hu_343, heu_343, htu_343⟩ := hw
        have hl : lv_has ls 4 [(3, .int i), (2, .ref (v.1 0)), (1, .ref (u_343.1 0)), (0, .ref b)] := by rw [heu_343]; exact hl
        refine lv_pop hx hb dL_law_930 rfl ?_
        refine lv_aload_n hx hb dL_law_931 rfl (lv_at hl 1 rfl) ?_
        refine lv_aload_n hx hb dL_law_932 rfl (lv_at hl 3 rfl) ?_
        refine lv_iload_n hx hb dL_law_933 rfl (lv_at hl 0 rfl) ?_
        refine lv_iconst (v := 1) hx hb dL_law_934 (by decide) ?_
        refine lv_iadd hx hb dL_law_935 ?_
        refine lv_topi (fun x_344 ex_344 => ?_)
        have fx_344 : x_344.toInt = i.toInt + 1 := by rw [ex_344]; exact I_add rfl (by decide : (1 : Int32).toInt = 1) (by omega) (by omega)
        refine va_sld hx hb hXs hbl hbA hS (i := x_344) (vp_in_iff.mpr (by omega)) dL_law_936 ?_
        refine lv_topi (fun x_345 ex_345 => ?_)
        refine k_iW (k_VW (n := 1) ⟨hx, hb, hml, hown, hT⟩ hK hP hD (lift_r (X' := nX) (wr := wX g u_343) (mL_clash l g H.size v hv x_345) (fun _ _ _ _ _ _ => trivial)) (gV bw_1590 bw_1045 bw_1046 bw_840 bw_1038) rfl rfl (by decide +kernel) ⟨by decide, by decide⟩ (ci := 12) rfl (List.mem_append_right _ List.mem_cons_self) (fun _ _ _ _ _ => trivial) (fun _ _ _ => trivial) rfl rfl hl.1 (Nat.le_of_ble_eq_true rfl) dL_law_937 ⟨by decide, by decide⟩) hD hS hA (fun r_346 v_347 H locs hw hP hD hS => ?_)
        obtain ⟨hv_347, hev_347, htv_347⟩ := hw
        have hl : lv_has ls 4 [(3, .int i), (2, .ref (v_347.1 0)), (1, .ref (u_343.1 0)), (0, .ref b)] := by rw [hev_347]; exact hl
        refine lv_pop hx hb dL_law_940 rfl ?_
        refine lv_goto (tgt := 1217) hx hb dL_law_941 (by decide) ?_
        obtain ⟨x_348, ex_348⟩ : ∃ y : Int32, y = i + 6 := ⟨_, rfl⟩
        have fx_348 : x_348.toInt = i.toInt + 6 := by rw [ex_348]; exact I_add rfl (by decide) (by omega) (by omega)
        refine lv_iinc (v := x_348) (lv' := [(3, .int x_348), (2, .ref (v_347.1 0)), (1, .ref (u_343.1 0)), (0, .ref b)]) hx hb dL_law_1217 hl (k := 0) rfl (by rw [ex_348]; rfl) (by decide) rfl (fun ls hl => ?_)
        refine lv_goto (tgt := 18) hx hb dL_law_1220 (by decide) ?_
        exact ih (n - 1) (by omega) H locs ls ⟨u_343, v_347, x_348, hu_343, hv_347, (htu_343.trans (htt.trans htv_347.symm)), by omega, by omega, hP, hD, hS, lv_sub hl [0, 1, 2, 3] rfl⟩
      · obtain rfl : x_9 = 26 := eh_10
        refine lv_tableIn (tgt := 944) hx hb dL_law_33 (by decide) (by decide) (off := 911) (by decide) (by decide) ?_
        refine lv_aload_n hx hb dL_law_944 rfl (lv_at hl 2 rfl) ?_
        refine lv_aload_n hx hb dL_law_945 rfl (lv_at hl 3 rfl) ?_
        refine lv_iload_n hx hb dL_law_946 rfl (lv_at hl 0 rfl) ?_
        refine lv_iconst (v := 1) hx hb dL_law_947 (by decide) ?_
        refine lv_iadd hx hb dL_law_948 ?_
        refine lv_topi (fun x_349 ex_349 => ?_)
        have fx_349 : x_349.toInt = i.toInt + 1 := by rw [ex_349]; exact I_add rfl (by decide : (1 : Int32).toInt = 1) (by omega) (by omega)
        refine va_sld hx hb hXs hbl hbA hS (i := x_349) (vp_in_iff.mpr (by omega)) dL_law_949 ?_
        refine lv_topi (fun x_350 ex_350 => ?_)
        refine k_iW (k_VW (n := 1) ⟨hx, hb, hml, hown, hT⟩ hK hP hD (lift_l (X' := nX) (wr := wM g v) (xL_part l g H.size u hu x_350) (fun _ _ _ _ _ _ => trivial)) (gV bw_1591 bw_1592 bw_1593 bw_395 bw_389) rfl rfl (by decide +kernel) ⟨by decide, by decide⟩ (ci := 11) rfl (List.mem_append_left _ (List.mem_append_left _ List.mem_cons_self)) (fun _ _ _ _ _ => trivial) (fun _ _ _ => trivial) rfl rfl hl.1 (Nat.le_of_ble_eq_true rfl) dL_law_950 ⟨by decide, by decide⟩) hD hS hA (fun r_351 u_352 H locs hw hP hD hS => ?_)
        obtain ⟨hu_352, heu_352, htu_352⟩ := hw
        have hl : lv_has ls 4 [(3, .int i), (2, .ref (v.1 0)), (1, .ref (u_352.1 0)), (0, .ref b)] := by rw [heu_352]; exact hl
        refine lv_pop hx hb dL_law_953 rfl ?_
        refine lv_aload_n hx hb dL_law_954 rfl (lv_at hl 1 rfl) ?_
        refine lv_aload_n hx hb dL_law_955 rfl (lv_at hl 3 rfl) ?_
        refine lv_iload_n hx hb dL_law_956 rfl (lv_at hl 0 rfl) ?_
        refine lv_iconst (v := 1) hx hb dL_law_957 (by decide) ?_
        refine lv_iadd hx hb dL_law_958 ?_
        refine lv_topi (fun x_353 ex_353 => ?_)
        have fx_353 : x_353.toInt = i.toInt + 1 := by rw [ex_353]; exact I_add rfl (by decide : (1 : Int32).toInt = 1) (by omega) (by omega)
        refine va_sld hx hb hXs hbl hbA hS (i := x_353) (vp_in_iff.mpr (by omega)) dL_law_959 ?_
        refine lv_topi (fun x_354 ex_354 => ?_)
        refine k_iW (k_VW (n := 1) ⟨hx, hb, hml, hown, hT⟩ hK hP hD (lift_r (X' := nX) (wr := wX g u_352) (mL_part l g H.size v hv x_354) (fun _ _ _ _ _ _ => trivial)) (gV bw_1594 bw_1595 bw_1596 bw_840 bw_1058) rfl rfl (by decide +kernel) ⟨by decide, by decide⟩ (ci := 12) rfl (List.mem_append_right _ List.mem_cons_self) (fun _ _ _ _ _ => trivial) (fun _ _ _ => trivial) rfl rfl hl.1 (Nat.le_of_ble_eq_true rfl) dL_law_960 ⟨by decide, by decide⟩) hD hS hA (fun r_355 v_356 H locs hw hP hD hS => ?_)
        obtain ⟨hv_356, hev_356, htv_356⟩ := hw
        have hl : lv_has ls 4 [(3, .int i), (2, .ref (v_356.1 0)), (1, .ref (u_352.1 0)), (0, .ref b)] := by rw [hev_356]; exact hl
        refine lv_pop hx hb dL_law_963 rfl ?_
        refine lv_goto (tgt := 1217) hx hb dL_law_964 (by decide) ?_
        obtain ⟨x_357, ex_357⟩ : ∃ y : Int32, y = i + 6 := ⟨_, rfl⟩
        have fx_357 : x_357.toInt = i.toInt + 6 := by rw [ex_357]; exact I_add rfl (by decide) (by omega) (by omega)
        refine lv_iinc (v := x_357) (lv' := [(3, .int x_357), (2, .ref (v_356.1 0)), (1, .ref (u_352.1 0)), (0, .ref b)]) hx hb dL_law_1217 hl (k := 0) rfl (by rw [ex_357]; rfl) (by decide) rfl (fun ls hl => ?_)
        refine lv_goto (tgt := 18) hx hb dL_law_1220 (by decide) ?_
        exact ih (n - 1) (by omega) H locs ls ⟨u_352, v_356, x_357, hu_352, hv_356, (htu_352.trans (htt.trans htv_356.symm)), by omega, by omega, hP, hD, hS, lv_sub hl [0, 1, 2, 3] rfl⟩
      · obtain rfl : x_9 = 27 := eh_10
        refine lv_tableIn (tgt := 967) hx hb dL_law_33 (by decide) (by decide) (off := 934) (by decide) (by decide) ?_
        refine lv_aload_n hx hb dL_law_967 rfl (lv_at hl 2 rfl) ?_
        refine lv_aload_n hx hb dL_law_968 rfl (lv_at hl 3 rfl) ?_
        refine lv_iload_n hx hb dL_law_969 rfl (lv_at hl 0 rfl) ?_
        refine lv_iconst (v := 1) hx hb dL_law_970 (by decide) ?_
        refine lv_iadd hx hb dL_law_971 ?_
        refine lv_topi (fun x_358 ex_358 => ?_)
        have fx_358 : x_358.toInt = i.toInt + 1 := by rw [ex_358]; exact I_add rfl (by decide : (1 : Int32).toInt = 1) (by omega) (by omega)
        refine va_sld hx hb hXs hbl hbA hS (i := x_358) (vp_in_iff.mpr (by omega)) dL_law_972 ?_
        refine lv_topi (fun x_359 ex_359 => ?_)
        refine k_iW (k_VW (n := 1) ⟨hx, hb, hml, hown, hT⟩ hK hP hD (lift_l (X' := nX) (wr := wM g v) (xL_lies l g H.size u hu x_359) (fun _ _ _ _ _ _ => trivial)) (gV bw_1597 bw_1598 bw_1599 bw_395 bw_347) rfl rfl (by decide +kernel) ⟨by decide, by decide⟩ (ci := 11) rfl (List.mem_append_left _ (List.mem_append_left _ List.mem_cons_self)) (fun _ _ _ _ _ => trivial) (fun _ _ _ => trivial) rfl rfl hl.1 (Nat.le_of_ble_eq_true rfl) dL_law_973 ⟨by decide, by decide⟩) hD hS hA (fun r_360 u_361 H locs hw hP hD hS => ?_)
        obtain ⟨hu_361, heu_361, htu_361⟩ := hw
        have hl : lv_has ls 4 [(3, .int i), (2, .ref (v.1 0)), (1, .ref (u_361.1 0)), (0, .ref b)] := by rw [heu_361]; exact hl
        refine lv_pop hx hb dL_law_976 rfl ?_
        refine lv_aload_n hx hb dL_law_977 rfl (lv_at hl 1 rfl) ?_
        refine lv_aload_n hx hb dL_law_978 rfl (lv_at hl 3 rfl) ?_
        refine lv_iload_n hx hb dL_law_979 rfl (lv_at hl 0 rfl) ?_
        refine lv_iconst (v := 1) hx hb dL_law_980 (by decide) ?_
        refine lv_iadd hx hb dL_law_981 ?_
        refine lv_topi (fun x_362 ex_362 => ?_)
        have fx_362 : x_362.toInt = i.toInt + 1 := by rw [ex_362]; exact I_add rfl (by decide : (1 : Int32).toInt = 1) (by omega) (by omega)
        refine va_sld hx hb hXs hbl hbA hS (i := x_362) (vp_in_iff.mpr (by omega)) dL_law_982 ?_
        refine lv_topi (fun x_363 ex_363 => ?_)
        refine k_iW (k_VW (n := 1) ⟨hx, hb, hml, hown, hT⟩ hK hP hD (lift_r (X' := nX) (wr := wX g u_361) (mL_lies l g H.size v hv x_363) (fun _ _ _ _ _ _ => trivial)) (gV bw_1600 bw_1601 bw_1602 bw_840 bw_954) rfl rfl (by decide +kernel) ⟨by decide, by decide⟩ (ci := 12) rfl (List.mem_append_right _ List.mem_cons_self) (fun _ _ _ _ _ => trivial) (fun _ _ _ => trivial) rfl rfl hl.1 (Nat.le_of_ble_eq_true rfl) dL_law_983 ⟨by decide, by decide⟩) hD hS hA (fun r_364 v_365 H locs hw hP hD hS => ?_)
        obtain ⟨hv_365, hev_365, htv_365⟩ := hw
        have hl : lv_has ls 4 [(3, .int i), (2, .ref (v_365.1 0)), (1, .ref (u_361.1 0)), (0, .ref b)] := by rw [hev_365]; exact hl
        refine lv_pop hx hb dL_law_986 rfl ?_
        refine lv_goto (tgt := 1217) hx hb dL_law_987 (by decide) ?_
        obtain ⟨x_366, ex_366⟩ : ∃ y : Int32, y = i + 6 := ⟨_, rfl⟩
        have fx_366 : x_366.toInt = i.toInt + 6 := by rw [ex_366]; exact I_add rfl (by decide) (by omega) (by omega)
        refine lv_iinc (v := x_366) (lv' := [(3, .int x_366), (2, .ref (v_365.1 0)), (1, .ref (u_361.1 0)), (0, .ref b)]) hx hb dL_law_1217 hl (k := 0) rfl (by rw [ex_366]; rfl) (by decide) rfl (fun ls hl => ?_)
        refine lv_goto (tgt := 18) hx hb dL_law_1220 (by decide) ?_
        exact ih (n - 1) (by omega) H locs ls ⟨u_361, v_365, x_366, hu_361, hv_365, (htu_361.trans (htt.trans htv_365.symm)), by omega, by omega, hP, hD, hS, lv_sub hl [0, 1, 2, 3] rfl⟩
      · obtain rfl : x_9 = 28 := eh_10
        refine lv_tableIn (tgt := 990) hx hb dL_law_33 (by decide) (by decide) (off := 957) (by decide) (by decide) ?_
        refine lv_aload_n hx hb dL_law_990 rfl (lv_at hl 2 rfl) ?_
        refine lv_aload_n hx hb dL_law_991 rfl (lv_at hl 3 rfl) ?_
        refine lv_iload_n hx hb dL_law_992 rfl (lv_at hl 0 rfl) ?_
        refine lv_iconst (v := 1) hx hb dL_law_993 (by decide) ?_
        refine lv_iadd hx hb dL_law_994 ?_
        refine lv_topi (fun x_367 ex_367 => ?_)
        have fx_367 : x_367.toInt = i.toInt + 1 := by rw [ex_367]; exact I_add rfl (by decide : (1 : Int32).toInt = 1) (by omega) (by omega)
        refine va_sld hx hb hXs hbl hbA hS (i := x_367) (vp_in_iff.mpr (by omega)) dL_law_995 ?_
        refine lv_topi (fun x_368 ex_368 => ?_)
        refine lv_aload_n hx hb dL_law_996 rfl (lv_at hl 3 rfl) ?_
        refine lv_iload_n hx hb dL_law_997 rfl (lv_at hl 0 rfl) ?_
        refine lv_iconst (v := 2) hx hb dL_law_998 (by decide) ?_
        refine lv_iadd hx hb dL_law_999 ?_
        refine lv_topi (fun x_369 ex_369 => ?_)
        have fx_369 : x_369.toInt = i.toInt + 2 := by rw [ex_369]; exact I_add rfl (by decide : (2 : Int32).toInt = 2) (by omega) (by omega)
        refine va_sld hx hb hXs hbl hbA hS (i := x_369) (vp_in_iff.mpr (by omega)) dL_law_1000 ?_
        refine lv_topi (fun x_370 ex_370 => ?_)
        refine k_iW (k_VW (n := 2) ⟨hx, hb, hml, hown, hT⟩ hK hP hD (lift_l (X' := nX) (wr := wM g v) (xL_log l g H.size u hu x_368 x_370) (fun _ _ _ _ _ _ => trivial)) (gV bw_1603 bw_1604 bw_1605 bw_395 bw_325) rfl rfl (by decide +kernel) ⟨by decide, by decide⟩ (ci := 11) rfl (List.mem_append_left _ (List.mem_append_left _ List.mem_cons_self)) (fun _ _ _ _ _ => trivial) (fun _ _ _ => trivial) rfl rfl hl.1 (Nat.le_of_ble_eq_true rfl) dL_law_1001 ⟨by decide, by decide⟩) hD hS hA (fun r_371 u_372 H locs hw hP hD hS => ?_)
        obtain ⟨hu_372, heu_372, htu_372⟩ := hw
        have hl : lv_has ls 4 [(3, .int i), (2, .ref (v.1 0)), (1, .ref (u_372.1 0)), (0, .ref b)] := by rw [heu_372]; exact hl
        refine lv_pop hx hb dL_law_1004 rfl ?_
        refine lv_aload_n hx hb dL_law_1005 rfl (lv_at hl 1 rfl) ?_
        refine lv_aload_n hx hb dL_law_1006 rfl (lv_at hl 3 rfl) ?_
        refine lv_iload_n hx hb dL_law_1007 rfl (lv_at hl 0 rfl) ?_
        refine lv_iconst (v := 1) hx hb dL_law_1008 (by decide) ?_
        refine lv_iadd hx hb dL_law_1009 ?_
        refine lv_topi (fun x_373 ex_373 => ?_)
        have fx_373 : x_373.toInt = i.toInt + 1 := by rw [ex_373]; exact I_add rfl (by decide : (1 : Int32).toInt = 1) (by omega) (by omega)
        refine va_sld hx hb hXs hbl hbA hS (i := x_373) (vp_in_iff.mpr (by omega)) dL_law_1010 ?_
        refine lv_topi (fun x_374 ex_374 => ?_)
        refine lv_aload_n hx hb dL_law_1011 rfl (lv_at hl 3 rfl) ?_
        refine lv_iload_n hx hb dL_law_1012 rfl (lv_at hl 0 rfl) ?_
        refine lv_iconst (v := 2) hx hb dL_law_1013 (by decide) ?_
        refine lv_iadd hx hb dL_law_1014 ?_
        refine lv_topi (fun x_375 ex_375 => ?_)
        have fx_375 : x_375.toInt = i.toInt + 2 := by rw [ex_375]; exact I_add rfl (by decide : (2 : Int32).toInt = 2) (by omega) (by omega)
        refine va_sld hx hb hXs hbl hbA hS (i := x_375) (vp_in_iff.mpr (by omega)) dL_law_1015 ?_
        refine lv_topi (fun x_376 ex_376 => ?_)
        refine k_iW (k_VW (n := 2) ⟨hx, hb, hml, hown, hT⟩ hK hP hD (lift_r (X' := nX) (wr := wX g u_372) (mL_log l g H.size v hv x_374 x_376) (fun _ _ _ _ _ _ => trivial)) (gV bw_1606 bw_1607 bw_1608 bw_840 bw_950) rfl rfl (by decide +kernel) ⟨by decide, by decide⟩ (ci := 12) rfl (List.mem_append_right _ List.mem_cons_self) (fun _ _ _ _ _ => trivial) (fun _ _ _ => trivial) rfl rfl hl.1 (Nat.le_of_ble_eq_true rfl) dL_law_1016 ⟨by decide, by decide⟩) hD hS hA (fun r_377 v_378 H locs hw hP hD hS => ?_)
        obtain ⟨hv_378, hev_378, htv_378⟩ := hw
        have hl : lv_has ls 4 [(3, .int i), (2, .ref (v_378.1 0)), (1, .ref (u_372.1 0)), (0, .ref b)] := by rw [hev_378]; exact hl
        refine lv_pop hx hb dL_law_1019 rfl ?_
        refine lv_goto (tgt := 1217) hx hb dL_law_1020 (by decide) ?_
        obtain ⟨x_379, ex_379⟩ : ∃ y : Int32, y = i + 6 := ⟨_, rfl⟩
        have fx_379 : x_379.toInt = i.toInt + 6 := by rw [ex_379]; exact I_add rfl (by decide) (by omega) (by omega)
        refine lv_iinc (v := x_379) (lv' := [(3, .int x_379), (2, .ref (v_378.1 0)), (1, .ref (u_372.1 0)), (0, .ref b)]) hx hb dL_law_1217 hl (k := 0) rfl (by rw [ex_379]; rfl) (by decide) rfl (fun ls hl => ?_)
        refine lv_goto (tgt := 18) hx hb dL_law_1220 (by decide) ?_
        exact ih (n - 1) (by omega) H locs ls ⟨u_372, v_378, x_379, hu_372, hv_378, (htu_372.trans (htt.trans htv_378.symm)), by omega, by omega, hP, hD, hS, lv_sub hl [0, 1, 2, 3] rfl⟩
      · obtain rfl : x_9 = 29 := eh_10
        refine lv_tableIn (tgt := 1023) hx hb dL_law_33 (by decide) (by decide) (off := 990) (by decide) (by decide) ?_
        refine lv_aload_n hx hb dL_law_1023 rfl (lv_at hl 2 rfl) ?_
        refine lv_aload_n hx hb dL_law_1024 rfl (lv_at hl 3 rfl) ?_
        refine lv_iload_n hx hb dL_law_1025 rfl (lv_at hl 0 rfl) ?_
        refine lv_iconst (v := 1) hx hb dL_law_1026 (by decide) ?_
        refine lv_iadd hx hb dL_law_1027 ?_
        refine lv_topi (fun x_380 ex_380 => ?_)
        have fx_380 : x_380.toInt = i.toInt + 1 := by rw [ex_380]; exact I_add rfl (by decide : (1 : Int32).toInt = 1) (by omega) (by omega)
        refine va_sld hx hb hXs hbl hbA hS (i := x_380) (vp_in_iff.mpr (by omega)) dL_law_1028 ?_
        refine lv_topi (fun x_381 ex_381 => ?_)
        refine k_iW (k_VW (n := 1) ⟨hx, hb, hml, hown, hT⟩ hK hP hD (lift_l (X' := nX) (wr := wM g v) (xL_began l g H.size u hu x_381) (fun _ _ _ _ _ _ => trivial)) (gV bw_1609 bw_1610 bw_1611 bw_395 bw_365) rfl rfl (by decide +kernel) ⟨by decide, by decide⟩ (ci := 11) rfl (List.mem_append_left _ (List.mem_append_left _ List.mem_cons_self)) (fun _ _ _ _ _ => trivial) (fun _ _ _ => trivial) rfl rfl hl.1 (Nat.le_of_ble_eq_true rfl) dL_law_1029 ⟨by decide, by decide⟩) hD hS hA (fun r_382 u_383 H locs hw hP hD hS => ?_)
        obtain ⟨hu_383, heu_383, htu_383⟩ := hw
        have hl : lv_has ls 4 [(3, .int i), (2, .ref (v.1 0)), (1, .ref (u_383.1 0)), (0, .ref b)] := by rw [heu_383]; exact hl
        refine lv_pop hx hb dL_law_1032 rfl ?_
        refine lv_aload_n hx hb dL_law_1033 rfl (lv_at hl 1 rfl) ?_
        refine lv_aload_n hx hb dL_law_1034 rfl (lv_at hl 3 rfl) ?_
        refine lv_iload_n hx hb dL_law_1035 rfl (lv_at hl 0 rfl) ?_
        refine lv_iconst (v := 1) hx hb dL_law_1036 (by decide) ?_
        refine lv_iadd hx hb dL_law_1037 ?_
        refine lv_topi (fun x_384 ex_384 => ?_)
        have fx_384 : x_384.toInt = i.toInt + 1 := by rw [ex_384]; exact I_add rfl (by decide : (1 : Int32).toInt = 1) (by omega) (by omega)
        refine va_sld hx hb hXs hbl hbA hS (i := x_384) (vp_in_iff.mpr (by omega)) dL_law_1038 ?_
        refine lv_topi (fun x_385 ex_385 => ?_)
        refine k_iW (k_VW (n := 1) ⟨hx, hb, hml, hown, hT⟩ hK hP hD (lift_r (X' := nX) (wr := wX g u_383) (mL_began l g H.size v hv x_385) (fun _ _ _ _ _ _ => trivial)) (gV bw_1612 bw_1613 bw_1614 bw_840 bw_951) rfl rfl (by decide +kernel) ⟨by decide, by decide⟩ (ci := 12) rfl (List.mem_append_right _ List.mem_cons_self) (fun _ _ _ _ _ => trivial) (fun _ _ _ => trivial) rfl rfl hl.1 (Nat.le_of_ble_eq_true rfl) dL_law_1039 ⟨by decide, by decide⟩) hD hS hA (fun r_386 v_387 H locs hw hP hD hS => ?_)
        obtain ⟨hv_387, hev_387, htv_387⟩ := hw
        have hl : lv_has ls 4 [(3, .int i), (2, .ref (v_387.1 0)), (1, .ref (u_383.1 0)), (0, .ref b)] := by rw [hev_387]; exact hl
        refine lv_pop hx hb dL_law_1042 rfl ?_
        refine lv_goto (tgt := 1217) hx hb dL_law_1043 (by decide) ?_
        obtain ⟨x_388, ex_388⟩ : ∃ y : Int32, y = i + 6 := ⟨_, rfl⟩
        have fx_388 : x_388.toInt = i.toInt + 6 := by rw [ex_388]; exact I_add rfl (by decide) (by omega) (by omega)
        refine lv_iinc (v := x_388) (lv' := [(3, .int x_388), (2, .ref (v_387.1 0)), (1, .ref (u_383.1 0)), (0, .ref b)]) hx hb dL_law_1217 hl (k := 0) rfl (by rw [ex_388]; rfl) (by decide) rfl (fun ls hl => ?_)
        refine lv_goto (tgt := 18) hx hb dL_law_1220 (by decide) ?_
        exact ih (n - 1) (by omega) H locs ls ⟨u_383, v_387, x_388, hu_383, hv_387, (htu_383.trans (htt.trans htv_387.symm)), by omega, by omega, hP, hD, hS, lv_sub hl [0, 1, 2, 3] rfl⟩
      · obtain rfl : x_9 = 30 := eh_10
        refine lv_tableIn (tgt := 1046) hx hb dL_law_33 (by decide) (by decide) (off := 1013) (by decide) (by decide) ?_
        refine lv_aload_n hx hb dL_law_1046 rfl (lv_at hl 2 rfl) ?_
        refine lv_aload_n hx hb dL_law_1047 rfl (lv_at hl 3 rfl) ?_
        refine lv_iload_n hx hb dL_law_1048 rfl (lv_at hl 0 rfl) ?_
        refine lv_iconst (v := 1) hx hb dL_law_1049 (by decide) ?_
        refine lv_iadd hx hb dL_law_1050 ?_
        refine lv_topi (fun x_389 ex_389 => ?_)
        have fx_389 : x_389.toInt = i.toInt + 1 := by rw [ex_389]; exact I_add rfl (by decide : (1 : Int32).toInt = 1) (by omega) (by omega)
        refine va_sld hx hb hXs hbl hbA hS (i := x_389) (vp_in_iff.mpr (by omega)) dL_law_1051 ?_
        refine lv_topi (fun x_390 ex_390 => ?_)
        refine lv_aload_n hx hb dL_law_1052 rfl (lv_at hl 3 rfl) ?_
        refine lv_iload_n hx hb dL_law_1053 rfl (lv_at hl 0 rfl) ?_
        refine lv_iconst (v := 2) hx hb dL_law_1054 (by decide) ?_
        refine lv_iadd hx hb dL_law_1055 ?_
        refine lv_topi (fun x_391 ex_391 => ?_)
        have fx_391 : x_391.toInt = i.toInt + 2 := by rw [ex_391]; exact I_add rfl (by decide : (2 : Int32).toInt = 2) (by omega) (by omega)
        refine va_sld hx hb hXs hbl hbA hS (i := x_391) (vp_in_iff.mpr (by omega)) dL_law_1056 ?_
        refine lv_topi (fun x_392 ex_392 => ?_)
        refine k_iW (k_VW (n := 2) ⟨hx, hb, hml, hown, hT⟩ hK hP hD (lift_l (X' := nX) (wr := wM g v) (xL_sight l g H.size u hu x_390 x_392) (fun _ _ _ _ _ _ => trivial)) (gV bw_1615 bw_1616 bw_1617 bw_395 bw_352) rfl rfl (by decide +kernel) ⟨by decide, by decide⟩ (ci := 11) rfl (List.mem_append_left _ (List.mem_append_left _ List.mem_cons_self)) (fun _ _ _ _ _ => trivial) (fun _ _ _ => trivial) rfl rfl hl.1 (Nat.le_of_ble_eq_true rfl) dL_law_1057 ⟨by decide, by decide⟩) hD hS hA (fun r_393 u_394 H locs hw hP hD hS => ?_)
        obtain ⟨hu_394, heu_394, htu_394⟩ := hw
        have hl : lv_has ls 4 [(3, .int i), (2, .ref (v.1 0)), (1, .ref (u_394.1 0)), (0, .ref b)] := by rw [heu_394]; exact hl
        refine lv_pop hx hb dL_law_1060 rfl ?_
        refine lv_aload_n hx hb dL_law_1061 rfl (lv_at hl 1 rfl) ?_
        refine lv_aload_n hx hb dL_law_1062 rfl (lv_at hl 3 rfl) ?_
        refine lv_iload_n hx hb dL_law_1063 rfl (lv_at hl 0 rfl) ?_
        refine lv_iconst (v := 1) hx hb dL_law_1064 (by decide) ?_
        refine lv_iadd hx hb dL_law_1065 ?_
        refine lv_topi (fun x_395 ex_395 => ?_)
        have fx_395 : x_395.toInt = i.toInt + 1 := by rw [ex_395]; exact I_add rfl (by decide : (1 : Int32).toInt = 1) (by omega) (by omega)
        refine va_sld hx hb hXs hbl hbA hS (i := x_395) (vp_in_iff.mpr (by omega)) dL_law_1066 ?_
        refine lv_topi (fun x_396 ex_396 => ?_)
        refine lv_aload_n hx hb dL_law_1067 rfl (lv_at hl 3 rfl) ?_
        refine lv_iload_n hx hb dL_law_1068 rfl (lv_at hl 0 rfl) ?_
        refine lv_iconst (v := 2) hx hb dL_law_1069 (by decide) ?_
        refine lv_iadd hx hb dL_law_1070 ?_
        refine lv_topi (fun x_397 ex_397 => ?_)
        have fx_397 : x_397.toInt = i.toInt + 2 := by rw [ex_397]; exact I_add rfl (by decide : (2 : Int32).toInt = 2) (by omega) (by omega)
        refine va_sld hx hb hXs hbl hbA hS (i := x_397) (vp_in_iff.mpr (by omega)) dL_law_1071 ?_
        refine lv_topi (fun x_398 ex_398 => ?_)
        refine k_iW (k_VW (n := 2) ⟨hx, hb, hml, hown, hT⟩ hK hP hD (lift_r (X' := nX) (wr := wX g u_394) (mL_sight l g H.size v hv x_396 x_398) (fun _ _ _ _ _ _ => trivial)) (gV bw_1618 bw_1619 bw_1620 bw_840 bw_1019) rfl rfl (by decide +kernel) ⟨by decide, by decide⟩ (ci := 12) rfl (List.mem_append_right _ List.mem_cons_self) (fun _ _ _ _ _ => trivial) (fun _ _ _ => trivial) rfl rfl hl.1 (Nat.le_of_ble_eq_true rfl) dL_law_1072 ⟨by decide, by decide⟩) hD hS hA (fun r_399 v_400 H locs hw hP hD hS => ?_)
        obtain ⟨hv_400, hev_400, htv_400⟩ := hw
        have hl : lv_has ls 4 [(3, .int i), (2, .ref (v_400.1 0)), (1, .ref (u_394.1 0)), (0, .ref b)] := by rw [hev_400]; exact hl
        refine lv_pop hx hb dL_law_1075 rfl ?_
        refine lv_goto (tgt := 1217) hx hb dL_law_1076 (by decide) ?_
        obtain ⟨x_401, ex_401⟩ : ∃ y : Int32, y = i + 6 := ⟨_, rfl⟩
        have fx_401 : x_401.toInt = i.toInt + 6 := by rw [ex_401]; exact I_add rfl (by decide) (by omega) (by omega)
        refine lv_iinc (v := x_401) (lv' := [(3, .int x_401), (2, .ref (v_400.1 0)), (1, .ref (u_394.1 0)), (0, .ref b)]) hx hb dL_law_1217 hl (k := 0) rfl (by rw [ex_401]; rfl) (by decide) rfl (fun ls hl => ?_)
        refine lv_goto (tgt := 18) hx hb dL_law_1220 (by decide) ?_
        exact ih (n - 1) (by omega) H locs ls ⟨u_394, v_400, x_401, hu_394, hv_400, (htu_394.trans (htt.trans htv_400.symm)), by omega, by omega, hP, hD, hS, lv_sub hl [0, 1, 2, 3] rfl⟩
      · obtain rfl : x_9 = 31 := eh_10
        refine lv_tableIn (tgt := 1079) hx hb dL_law_33 (by decide) (by decide) (off := 1046) (by decide) (by decide) ?_
        refine lv_aload_n hx hb dL_law_1079 rfl (lv_at hl 2 rfl) ?_
        refine lv_aload_n hx hb dL_law_1080 rfl (lv_at hl 3 rfl) ?_
        refine lv_iload_n hx hb dL_law_1081 rfl (lv_at hl 0 rfl) ?_
        refine lv_iconst (v := 1) hx hb dL_law_1082 (by decide) ?_
        refine lv_iadd hx hb dL_law_1083 ?_
        refine lv_topi (fun x_402 ex_402 => ?_)
        have fx_402 : x_402.toInt = i.toInt + 1 := by rw [ex_402]; exact I_add rfl (by decide : (1 : Int32).toInt = 1) (by omega) (by omega)
        refine va_sld hx hb hXs hbl hbA hS (i := x_402) (vp_in_iff.mpr (by omega)) dL_law_1084 ?_
        refine lv_topi (fun x_403 ex_403 => ?_)
        refine k_iW (k_VW (n := 1) ⟨hx, hb, hml, hown, hT⟩ hK hP hD (lift_l (X' := nX) (wr := wM g v) (xL_untell l g H.size u hu x_403) (fun _ _ _ _ _ _ => trivial)) (gV bw_1621 bw_1622 bw_1623 bw_395 bw_356) rfl rfl (by decide +kernel) ⟨by decide, by decide⟩ (ci := 11) rfl (List.mem_append_left _ (List.mem_append_left _ List.mem_cons_self)) (fun _ _ _ _ _ => trivial) (fun _ _ _ => trivial) rfl rfl hl.1 (Nat.le_of_ble_eq_true rfl) dL_law_1085 ⟨by decide, by decide⟩) hD hS hA (fun r_404 u_405 H locs hw hP hD hS => ?_)
        obtain ⟨hu_405, heu_405, htu_405⟩ := hw
        have hl : lv_has ls 4 [(3, .int i), (2, .ref (v.1 0)), (1, .ref (u_405.1 0)), (0, .ref b)] := by rw [heu_405]; exact hl
        refine lv_pop hx hb dL_law_1088 rfl ?_
        refine lv_aload_n hx hb dL_law_1089 rfl (lv_at hl 1 rfl) ?_
        refine lv_aload_n hx hb dL_law_1090 rfl (lv_at hl 3 rfl) ?_
        refine lv_iload_n hx hb dL_law_1091 rfl (lv_at hl 0 rfl) ?_
        refine lv_iconst (v := 1) hx hb dL_law_1092 (by decide) ?_
        refine lv_iadd hx hb dL_law_1093 ?_
        refine lv_topi (fun x_406 ex_406 => ?_)
        have fx_406 : x_406.toInt = i.toInt + 1 := by rw [ex_406]; exact I_add rfl (by decide : (1 : Int32).toInt = 1) (by omega) (by omega)
        refine va_sld hx hb hXs hbl hbA hS (i := x_406) (vp_in_iff.mpr (by omega)) dL_law_1094 ?_
        refine lv_topi (fun x_407 ex_407 => ?_)
        refine k_iW (k_VW (n := 1) ⟨hx, hb, hml, hown, hT⟩ hK hP hD (lift_r (X' := nX) (wr := wX g u_405) (mL_untell l g H.size v hv x_407) (fun _ _ _ _ _ _ => trivial)) (gV bw_1624 bw_1625 bw_1626 bw_840 bw_1020) rfl rfl (by decide +kernel) ⟨by decide, by decide⟩ (ci := 12) rfl (List.mem_append_right _ List.mem_cons_self) (fun _ _ _ _ _ => trivial) (fun _ _ _ => trivial) rfl rfl hl.1 (Nat.le_of_ble_eq_true rfl) dL_law_1095 ⟨by decide, by decide⟩) hD hS hA (fun r_408 v_409 H locs hw hP hD hS => ?_)
        obtain ⟨hv_409, hev_409, htv_409⟩ := hw
        have hl : lv_has ls 4 [(3, .int i), (2, .ref (v_409.1 0)), (1, .ref (u_405.1 0)), (0, .ref b)] := by rw [hev_409]; exact hl
        refine lv_pop hx hb dL_law_1098 rfl ?_
        refine lv_goto (tgt := 1217) hx hb dL_law_1099 (by decide) ?_
        obtain ⟨x_410, ex_410⟩ : ∃ y : Int32, y = i + 6 := ⟨_, rfl⟩
        have fx_410 : x_410.toInt = i.toInt + 6 := by rw [ex_410]; exact I_add rfl (by decide) (by omega) (by omega)
        refine lv_iinc (v := x_410) (lv' := [(3, .int x_410), (2, .ref (v_409.1 0)), (1, .ref (u_405.1 0)), (0, .ref b)]) hx hb dL_law_1217 hl (k := 0) rfl (by rw [ex_410]; rfl) (by decide) rfl (fun ls hl => ?_)
        refine lv_goto (tgt := 18) hx hb dL_law_1220 (by decide) ?_
        exact ih (n - 1) (by omega) H locs ls ⟨u_405, v_409, x_410, hu_405, hv_409, (htu_405.trans (htt.trans htv_409.symm)), by omega, by omega, hP, hD, hS, lv_sub hl [0, 1, 2, 3] rfl⟩
      · obtain rfl : x_9 = 32 := eh_10
        refine lv_tableIn (tgt := 1102) hx hb dL_law_33 (by decide) (by decide) (off := 1069) (by decide) (by decide) ?_
        refine lv_aload_n hx hb dL_law_1102 rfl (lv_at hl 2 rfl) ?_
        refine lv_aload_n hx hb dL_law_1103 rfl (lv_at hl 3 rfl) ?_
        refine lv_iload_n hx hb dL_law_1104 rfl (lv_at hl 0 rfl) ?_
        refine lv_iconst (v := 1) hx hb dL_law_1105 (by decide) ?_
        refine lv_iadd hx hb dL_law_1106 ?_
        refine lv_topi (fun x_411 ex_411 => ?_)
        have fx_411 : x_411.toInt = i.toInt + 1 := by rw [ex_411]; exact I_add rfl (by decide : (1 : Int32).toInt = 1) (by omega) (by omega)
        refine va_sld hx hb hXs hbl hbA hS (i := x_411) (vp_in_iff.mpr (by omega)) dL_law_1107 ?_
        refine lv_topi (fun x_412 ex_412 => ?_)
        refine k_iW (k_VW (n := 1) ⟨hx, hb, hml, hown, hT⟩ hK hP hD (lift_l (X' := nX) (wr := wM g v) (xL_later l g H.size u hu x_412) (fun _ _ _ _ _ _ => trivial)) (gV bw_1627 bw_1628 bw_1629 bw_395 bw_378) rfl rfl (by decide +kernel) ⟨by decide, by decide⟩ (ci := 11) rfl (List.mem_append_left _ (List.mem_append_left _ List.mem_cons_self)) (fun _ _ _ _ _ => trivial) (fun _ _ _ => trivial) rfl rfl hl.1 (Nat.le_of_ble_eq_true rfl) dL_law_1108 ⟨by decide, by decide⟩) hD hS hA (fun r_413 u_414 H locs hw hP hD hS => ?_)
        obtain ⟨hu_414, heu_414, htu_414⟩ := hw
        have hl : lv_has ls 4 [(3, .int i), (2, .ref (v.1 0)), (1, .ref (u_414.1 0)), (0, .ref b)] := by rw [heu_414]; exact hl
        refine lv_aload_n hx hb dL_law_1111 rfl (lv_at hl 1 rfl) ?_
        refine lv_aload_n hx hb dL_law_1112 rfl (lv_at hl 3 rfl) ?_
        refine lv_iload_n hx hb dL_law_1113 rfl (lv_at hl 0 rfl) ?_
        refine lv_iconst (v := 1) hx hb dL_law_1114 (by decide) ?_
        refine lv_iadd hx hb dL_law_1115 ?_
        refine lv_topi (fun x_415 ex_415 => ?_)
        have fx_415 : x_415.toInt = i.toInt + 1 := by rw [ex_415]; exact I_add rfl (by decide : (1 : Int32).toInt = 1) (by omega) (by omega)
        refine va_sld hx hb hXs hbl hbA hS (i := x_415) (vp_in_iff.mpr (by omega)) dL_law_1116 ?_
        refine lv_topi (fun x_416 ex_416 => ?_)
        refine k_iW (k_VW (n := 1) ⟨hx, hb, hml, hown, hT⟩ hK hP hD (lift_r (X' := nX) (wr := wX g u_414) (mL_later l g H.size v hv x_416) (fun _ _ _ _ _ _ => trivial)) (gV bw_1630 bw_1631 bw_1632 bw_840 bw_1022) rfl rfl (by decide +kernel) ⟨by decide, by decide⟩ (ci := 12) rfl (List.mem_append_right _ List.mem_cons_self) (fun _ _ _ _ _ => trivial) (fun _ _ _ => trivial) rfl rfl hl.1 (Nat.le_of_ble_eq_true rfl) dL_law_1117 ⟨by decide, by decide⟩) hD hS hA (fun r_417 v_418 H locs hw hP hD hS => ?_)
        obtain ⟨hv_418, hev_418, htv_418⟩ := hw
        have hl : lv_has ls 4 [(3, .int i), (2, .ref (v_418.1 0)), (1, .ref (u_414.1 0)), (0, .ref b)] := by rw [hev_418]; exact hl
        refine lv_icmp_eq (tgt := 1217) hx hb dL_law_1120 (by decide) (fun _ => ?_) (fun c9 => absurd (htu_414.1.trans ((by rw [htt]) : Fl (u.2.1 35) x_416 = Fl (v.2.1 32) x_416) |>.trans htv_418.1.symm) c9)
        obtain ⟨x_419, ex_419⟩ : ∃ y : Int32, y = i + 6 := ⟨_, rfl⟩
        have fx_419 : x_419.toInt = i.toInt + 6 := by rw [ex_419]; exact I_add rfl (by decide) (by omega) (by omega)
        refine lv_iinc (v := x_419) (lv' := [(3, .int x_419), (2, .ref (v_418.1 0)), (1, .ref (u_414.1 0)), (0, .ref b)]) hx hb dL_law_1217 hl (k := 0) rfl (by rw [ex_419]; rfl) (by decide) rfl (fun ls hl => ?_)
        refine lv_goto (tgt := 18) hx hb dL_law_1220 (by decide) ?_
        exact ih (n - 1) (by omega) H locs ls ⟨u_414, v_418, x_419, hu_414, hv_418, (htu_414.2.trans ((by rw [htt]) : Ft (u.2.1 35) x_416 = Ft (v.2.1 32) x_416) |>.trans htv_418.2.symm), by omega, by omega, hP, hD, hS, lv_sub hl [0, 1, 2, 3] rfl⟩
      · obtain rfl : x_9 = 33 := eh_10
        refine lv_tableIn (tgt := 1125) hx hb dL_law_33 (by decide) (by decide) (off := 1092) (by decide) (by decide) ?_
        refine lv_aload_n hx hb dL_law_1125 rfl (lv_at hl 2 rfl) ?_
        refine lv_aload_n hx hb dL_law_1126 rfl (lv_at hl 3 rfl) ?_
        refine lv_iload_n hx hb dL_law_1127 rfl (lv_at hl 0 rfl) ?_
        refine lv_iconst (v := 1) hx hb dL_law_1128 (by decide) ?_
        refine lv_iadd hx hb dL_law_1129 ?_
        refine lv_topi (fun x_420 ex_420 => ?_)
        have fx_420 : x_420.toInt = i.toInt + 1 := by rw [ex_420]; exact I_add rfl (by decide : (1 : Int32).toInt = 1) (by omega) (by omega)
        refine va_sld hx hb hXs hbl hbA hS (i := x_420) (vp_in_iff.mpr (by omega)) dL_law_1130 ?_
        refine lv_topi (fun x_421 ex_421 => ?_)
        refine k_iW (k_VW (n := 1) ⟨hx, hb, hml, hown, hT⟩ hK hP hD (lift_l (X' := nX) (wr := wM g v) (xL_falses l g H.size u hu x_421) (fun _ _ _ _ _ _ => trivial)) (gV bw_1633 bw_1634 bw_1635 bw_395 bw_376) rfl rfl (by decide +kernel) ⟨by decide, by decide⟩ (ci := 11) rfl (List.mem_append_left _ (List.mem_append_left _ List.mem_cons_self)) (fun _ _ _ _ _ => trivial) (fun _ _ _ => trivial) rfl rfl hl.1 (Nat.le_of_ble_eq_true rfl) dL_law_1131 ⟨by decide, by decide⟩) hD hS hA (fun r_422 u_423 H locs hw hP hD hS => ?_)
        obtain ⟨hu_423, heu_423, htu_423⟩ := hw
        have hl : lv_has ls 4 [(3, .int i), (2, .ref (v.1 0)), (1, .ref (u_423.1 0)), (0, .ref b)] := by rw [heu_423]; exact hl
        refine lv_pop hx hb dL_law_1134 rfl ?_
        refine lv_aload_n hx hb dL_law_1135 rfl (lv_at hl 1 rfl) ?_
        refine lv_aload_n hx hb dL_law_1136 rfl (lv_at hl 3 rfl) ?_
        refine lv_iload_n hx hb dL_law_1137 rfl (lv_at hl 0 rfl) ?_
        refine lv_iconst (v := 1) hx hb dL_law_1138 (by decide) ?_
        refine lv_iadd hx hb dL_law_1139 ?_
        refine lv_topi (fun x_424 ex_424 => ?_)
        have fx_424 : x_424.toInt = i.toInt + 1 := by rw [ex_424]; exact I_add rfl (by decide : (1 : Int32).toInt = 1) (by omega) (by omega)
        refine va_sld hx hb hXs hbl hbA hS (i := x_424) (vp_in_iff.mpr (by omega)) dL_law_1140 ?_
        refine lv_topi (fun x_425 ex_425 => ?_)
        refine k_iW (k_VW (n := 1) ⟨hx, hb, hml, hown, hT⟩ hK hP hD (lift_r (X' := nX) (wr := wX g u_423) (mL_falses l g H.size v hv x_425) (fun _ _ _ _ _ _ => trivial)) (gV bw_1636 bw_1637 bw_1638 bw_840 bw_1027) rfl rfl (by decide +kernel) ⟨by decide, by decide⟩ (ci := 12) rfl (List.mem_append_right _ List.mem_cons_self) (fun _ _ _ _ _ => trivial) (fun _ _ _ => trivial) rfl rfl hl.1 (Nat.le_of_ble_eq_true rfl) dL_law_1141 ⟨by decide, by decide⟩) hD hS hA (fun r_426 v_427 H locs hw hP hD hS => ?_)
        obtain ⟨hv_427, hev_427, htv_427⟩ := hw
        have hl : lv_has ls 4 [(3, .int i), (2, .ref (v_427.1 0)), (1, .ref (u_423.1 0)), (0, .ref b)] := by rw [hev_427]; exact hl
        refine lv_pop hx hb dL_law_1144 rfl ?_
        refine lv_goto (tgt := 1217) hx hb dL_law_1145 (by decide) ?_
        obtain ⟨x_428, ex_428⟩ : ∃ y : Int32, y = i + 6 := ⟨_, rfl⟩
        have fx_428 : x_428.toInt = i.toInt + 6 := by rw [ex_428]; exact I_add rfl (by decide) (by omega) (by omega)
        refine lv_iinc (v := x_428) (lv' := [(3, .int x_428), (2, .ref (v_427.1 0)), (1, .ref (u_423.1 0)), (0, .ref b)]) hx hb dL_law_1217 hl (k := 0) rfl (by rw [ex_428]; rfl) (by decide) rfl (fun ls hl => ?_)
        refine lv_goto (tgt := 18) hx hb dL_law_1220 (by decide) ?_
        exact ih (n - 1) (by omega) H locs ls ⟨u_423, v_427, x_428, hu_423, hv_427, (htu_423.trans (htt.trans htv_427.symm)), by omega, by omega, hP, hD, hS, lv_sub hl [0, 1, 2, 3] rfl⟩
      · obtain rfl : x_9 = 34 := eh_10
        refine lv_tableIn (tgt := 1148) hx hb dL_law_33 (by decide) (by decide) (off := 1115) (by decide) (by decide) ?_
        refine lv_aload_n hx hb dL_law_1148 rfl (lv_at hl 2 rfl) ?_
        refine lv_aload_n hx hb dL_law_1149 rfl (lv_at hl 3 rfl) ?_
        refine lv_iload_n hx hb dL_law_1150 rfl (lv_at hl 0 rfl) ?_
        refine lv_iconst (v := 1) hx hb dL_law_1151 (by decide) ?_
        refine lv_iadd hx hb dL_law_1152 ?_
        refine lv_topi (fun x_429 ex_429 => ?_)
        have fx_429 : x_429.toInt = i.toInt + 1 := by rw [ex_429]; exact I_add rfl (by decide : (1 : Int32).toInt = 1) (by omega) (by omega)
        refine va_sld hx hb hXs hbl hbA hS (i := x_429) (vp_in_iff.mpr (by omega)) dL_law_1153 ?_
        refine lv_topi (fun x_430 ex_430 => ?_)
        refine k_iW (k_VW (n := 1) ⟨hx, hb, hml, hown, hT⟩ hK hP hD (lift_l (X' := nX) (wr := wM g v) (xL_image l g H.size u hu x_430) (fun _ _ _ _ _ _ => trivial)) (gV bw_1639 bw_1640 bw_1641 bw_395 bw_402) rfl rfl (by decide +kernel) ⟨by decide, by decide⟩ (ci := 11) rfl (List.mem_append_left _ (List.mem_append_left _ List.mem_cons_self)) (fun _ _ _ _ _ => trivial) (fun _ _ _ => trivial) rfl rfl hl.1 (Nat.le_of_ble_eq_true rfl) dL_law_1154 ⟨by decide, by decide⟩) hD hS hA (fun r_431 u_432 H locs hw hP hD hS => ?_)
        obtain ⟨hu_432, heu_432, htu_432⟩ := hw
        have hl : lv_has ls 4 [(3, .int i), (2, .ref (v.1 0)), (1, .ref (u_432.1 0)), (0, .ref b)] := by rw [heu_432]; exact hl
        refine lv_pop hx hb dL_law_1157 rfl ?_
        refine lv_aload_n hx hb dL_law_1158 rfl (lv_at hl 1 rfl) ?_
        refine lv_aload_n hx hb dL_law_1159 rfl (lv_at hl 3 rfl) ?_
        refine lv_iload_n hx hb dL_law_1160 rfl (lv_at hl 0 rfl) ?_
        refine lv_iconst (v := 1) hx hb dL_law_1161 (by decide) ?_
        refine lv_iadd hx hb dL_law_1162 ?_
        refine lv_topi (fun x_433 ex_433 => ?_)
        have fx_433 : x_433.toInt = i.toInt + 1 := by rw [ex_433]; exact I_add rfl (by decide : (1 : Int32).toInt = 1) (by omega) (by omega)
        refine va_sld hx hb hXs hbl hbA hS (i := x_433) (vp_in_iff.mpr (by omega)) dL_law_1163 ?_
        refine lv_topi (fun x_434 ex_434 => ?_)
        refine k_iW (k_VW (n := 1) ⟨hx, hb, hml, hown, hT⟩ hK hP hD (lift_r (X' := nX) (wr := wX g u_432) (mL_image l g H.size v hv x_434) (fun _ _ _ _ _ _ => trivial)) (gV bw_1642 bw_1643 bw_1644 bw_840 bw_1029) rfl rfl (by decide +kernel) ⟨by decide, by decide⟩ (ci := 12) rfl (List.mem_append_right _ List.mem_cons_self) (fun _ _ _ _ _ => trivial) (fun _ _ _ => trivial) rfl rfl hl.1 (Nat.le_of_ble_eq_true rfl) dL_law_1164 ⟨by decide, by decide⟩) hD hS hA (fun r_435 v_436 H locs hw hP hD hS => ?_)
        obtain ⟨hv_436, hev_436, htv_436⟩ := hw
        have hl : lv_has ls 4 [(3, .int i), (2, .ref (v_436.1 0)), (1, .ref (u_432.1 0)), (0, .ref b)] := by rw [hev_436]; exact hl
        refine lv_pop hx hb dL_law_1167 rfl ?_
        refine lv_goto (tgt := 1217) hx hb dL_law_1168 (by decide) ?_
        obtain ⟨x_437, ex_437⟩ : ∃ y : Int32, y = i + 6 := ⟨_, rfl⟩
        have fx_437 : x_437.toInt = i.toInt + 6 := by rw [ex_437]; exact I_add rfl (by decide) (by omega) (by omega)
        refine lv_iinc (v := x_437) (lv' := [(3, .int x_437), (2, .ref (v_436.1 0)), (1, .ref (u_432.1 0)), (0, .ref b)]) hx hb dL_law_1217 hl (k := 0) rfl (by rw [ex_437]; rfl) (by decide) rfl (fun ls hl => ?_)
        refine lv_goto (tgt := 18) hx hb dL_law_1220 (by decide) ?_
        exact ih (n - 1) (by omega) H locs ls ⟨u_432, v_436, x_437, hu_432, hv_436, (htu_432.trans (htt.trans htv_436.symm)), by omega, by omega, hP, hD, hS, lv_sub hl [0, 1, 2, 3] rfl⟩
      · obtain rfl : x_9 = 35 := eh_10
        refine lv_tableIn (tgt := 1171) hx hb dL_law_33 (by decide) (by decide) (off := 1138) (by decide) (by decide) ?_
        refine lv_aload_n hx hb dL_law_1171 rfl (lv_at hl 2 rfl) ?_
        refine lv_aload_n hx hb dL_law_1172 rfl (lv_at hl 3 rfl) ?_
        refine lv_iload_n hx hb dL_law_1173 rfl (lv_at hl 0 rfl) ?_
        refine lv_iconst (v := 1) hx hb dL_law_1174 (by decide) ?_
        refine lv_iadd hx hb dL_law_1175 ?_
        refine lv_topi (fun x_438 ex_438 => ?_)
        have fx_438 : x_438.toInt = i.toInt + 1 := by rw [ex_438]; exact I_add rfl (by decide : (1 : Int32).toInt = 1) (by omega) (by omega)
        refine va_sld hx hb hXs hbl hbA hS (i := x_438) (vp_in_iff.mpr (by omega)) dL_law_1176 ?_
        refine lv_topi (fun x_439 ex_439 => ?_)
        refine k_iW (k_VW (n := 1) ⟨hx, hb, hml, hown, hT⟩ hK hP hD (lift_l (X' := nX) (wr := wM g v) (xL_back l g H.size u hu x_439) (fun _ _ _ _ _ _ => trivial)) (gV bw_1645 bw_1646 bw_1647 bw_395 bw_403) rfl rfl (by decide +kernel) ⟨by decide, by decide⟩ (ci := 11) rfl (List.mem_append_left _ (List.mem_append_left _ List.mem_cons_self)) (fun _ _ _ _ _ => trivial) (fun _ _ _ => trivial) rfl rfl hl.1 (Nat.le_of_ble_eq_true rfl) dL_law_1177 ⟨by decide, by decide⟩) hD hS hA (fun r_440 u_441 H locs hw hP hD hS => ?_)
        obtain ⟨hu_441, heu_441, htu_441⟩ := hw
        have hl : lv_has ls 4 [(3, .int i), (2, .ref (v.1 0)), (1, .ref (u_441.1 0)), (0, .ref b)] := by rw [heu_441]; exact hl
        refine lv_pop hx hb dL_law_1180 rfl ?_
        refine lv_aload_n hx hb dL_law_1181 rfl (lv_at hl 1 rfl) ?_
        refine lv_aload_n hx hb dL_law_1182 rfl (lv_at hl 3 rfl) ?_
        refine lv_iload_n hx hb dL_law_1183 rfl (lv_at hl 0 rfl) ?_
        refine lv_iconst (v := 1) hx hb dL_law_1184 (by decide) ?_
        refine lv_iadd hx hb dL_law_1185 ?_
        refine lv_topi (fun x_442 ex_442 => ?_)
        have fx_442 : x_442.toInt = i.toInt + 1 := by rw [ex_442]; exact I_add rfl (by decide : (1 : Int32).toInt = 1) (by omega) (by omega)
        refine va_sld hx hb hXs hbl hbA hS (i := x_442) (vp_in_iff.mpr (by omega)) dL_law_1186 ?_
        refine lv_topi (fun x_443 ex_443 => ?_)
        refine k_iW (k_VW (n := 1) ⟨hx, hb, hml, hown, hT⟩ hK hP hD (lift_r (X' := nX) (wr := wX g u_441) (mL_back l g H.size v hv x_443) (fun _ _ _ _ _ _ => trivial)) (gV bw_1648 bw_1649 bw_1650 bw_840 bw_1030) rfl rfl (by decide +kernel) ⟨by decide, by decide⟩ (ci := 12) rfl (List.mem_append_right _ List.mem_cons_self) (fun _ _ _ _ _ => trivial) (fun _ _ _ => trivial) rfl rfl hl.1 (Nat.le_of_ble_eq_true rfl) dL_law_1187 ⟨by decide, by decide⟩) hD hS hA (fun r_444 v_445 H locs hw hP hD hS => ?_)
        obtain ⟨hv_445, hev_445, htv_445⟩ := hw
        have hl : lv_has ls 4 [(3, .int i), (2, .ref (v_445.1 0)), (1, .ref (u_441.1 0)), (0, .ref b)] := by rw [hev_445]; exact hl
        refine lv_pop hx hb dL_law_1190 rfl ?_
        refine lv_goto (tgt := 1217) hx hb dL_law_1191 (by decide) ?_
        obtain ⟨x_446, ex_446⟩ : ∃ y : Int32, y = i + 6 := ⟨_, rfl⟩
        have fx_446 : x_446.toInt = i.toInt + 6 := by rw [ex_446]; exact I_add rfl (by decide) (by omega) (by omega)
        refine lv_iinc (v := x_446) (lv' := [(3, .int x_446), (2, .ref (v_445.1 0)), (1, .ref (u_441.1 0)), (0, .ref b)]) hx hb dL_law_1217 hl (k := 0) rfl (by rw [ex_446]; rfl) (by decide) rfl (fun ls hl => ?_)
        refine lv_goto (tgt := 18) hx hb dL_law_1220 (by decide) ?_
        exact ih (n - 1) (by omega) H locs ls ⟨u_441, v_445, x_446, hu_441, hv_445, (htu_441.trans (htt.trans htv_445.symm)), by omega, by omega, hP, hD, hS, lv_sub hl [0, 1, 2, 3] rfl⟩
      · obtain rfl : x_9 = 36 := eh_10
        refine lv_tableIn (tgt := 1194) hx hb dL_law_33 (by decide) (by decide) (off := 1161) (by decide) (by decide) ?_
        refine lv_aload_n hx hb dL_law_1194 rfl (lv_at hl 2 rfl) ?_
        refine lv_aload_n hx hb dL_law_1195 rfl (lv_at hl 3 rfl) ?_
        refine lv_iload_n hx hb dL_law_1196 rfl (lv_at hl 0 rfl) ?_
        refine lv_iconst (v := 1) hx hb dL_law_1197 (by decide) ?_
        refine lv_iadd hx hb dL_law_1198 ?_
        refine lv_topi (fun x_447 ex_447 => ?_)
        have fx_447 : x_447.toInt = i.toInt + 1 := by rw [ex_447]; exact I_add rfl (by decide : (1 : Int32).toInt = 1) (by omega) (by omega)
        refine va_sld hx hb hXs hbl hbA hS (i := x_447) (vp_in_iff.mpr (by omega)) dL_law_1199 ?_
        refine lv_topi (fun x_448 ex_448 => ?_)
        refine k_iW (k_VW (n := 1) ⟨hx, hb, hml, hown, hT⟩ hK hP hD (lift_l (X' := nX) (wr := wM g v) (xL_about l g H.size u hu x_448) (fun _ _ _ _ _ _ => trivial)) (gV bw_1651 bw_1652 bw_1653 bw_395 bw_343) rfl rfl (by decide +kernel) ⟨by decide, by decide⟩ (ci := 11) rfl (List.mem_append_left _ (List.mem_append_left _ List.mem_cons_self)) (fun _ _ _ _ _ => trivial) (fun _ _ _ => trivial) rfl rfl hl.1 (Nat.le_of_ble_eq_true rfl) dL_law_1200 ⟨by decide, by decide⟩) hD hS hA (fun r_449 u_450 H locs hw hP hD hS => ?_)
        obtain ⟨hu_450, heu_450, htu_450⟩ := hw
        have hl : lv_has ls 4 [(3, .int i), (2, .ref (v.1 0)), (1, .ref (u_450.1 0)), (0, .ref b)] := by rw [heu_450]; exact hl
        refine lv_pop hx hb dL_law_1203 rfl ?_
        refine lv_aload_n hx hb dL_law_1204 rfl (lv_at hl 1 rfl) ?_
        refine lv_aload_n hx hb dL_law_1205 rfl (lv_at hl 3 rfl) ?_
        refine lv_iload_n hx hb dL_law_1206 rfl (lv_at hl 0 rfl) ?_
        refine lv_iconst (v := 1) hx hb dL_law_1207 (by decide) ?_
        refine lv_iadd hx hb dL_law_1208 ?_
        refine lv_topi (fun x_451 ex_451 => ?_)
        have fx_451 : x_451.toInt = i.toInt + 1 := by rw [ex_451]; exact I_add rfl (by decide : (1 : Int32).toInt = 1) (by omega) (by omega)
        refine va_sld hx hb hXs hbl hbA hS (i := x_451) (vp_in_iff.mpr (by omega)) dL_law_1209 ?_
        refine lv_topi (fun x_452 ex_452 => ?_)
        refine k_iW (k_VW (n := 1) ⟨hx, hb, hml, hown, hT⟩ hK hP hD (lift_r (X' := nX) (wr := wX g u_450) (mL_about l g H.size v hv x_452) (fun _ _ _ _ _ _ => trivial)) (gV bw_1654 bw_1655 bw_1656 bw_840 bw_966) rfl rfl (by decide +kernel) ⟨by decide, by decide⟩ (ci := 12) rfl (List.mem_append_right _ List.mem_cons_self) (fun _ _ _ _ _ => trivial) (fun _ _ _ => trivial) rfl rfl hl.1 (Nat.le_of_ble_eq_true rfl) dL_law_1210 ⟨by decide, by decide⟩) hD hS hA (fun r_453 v_454 H locs hw hP hD hS => ?_)
        obtain ⟨hv_454, hev_454, htv_454⟩ := hw
        have hl : lv_has ls 4 [(3, .int i), (2, .ref (v_454.1 0)), (1, .ref (u_450.1 0)), (0, .ref b)] := by rw [hev_454]; exact hl
        refine lv_pop hx hb dL_law_1213 rfl ?_
        refine lv_goto (tgt := 1217) hx hb dL_law_1214 (by decide) ?_
        obtain ⟨x_455, ex_455⟩ : ∃ y : Int32, y = i + 6 := ⟨_, rfl⟩
        have fx_455 : x_455.toInt = i.toInt + 6 := by rw [ex_455]; exact I_add rfl (by decide) (by omega) (by omega)
        refine lv_iinc (v := x_455) (lv' := [(3, .int x_455), (2, .ref (v_454.1 0)), (1, .ref (u_450.1 0)), (0, .ref b)]) hx hb dL_law_1217 hl (k := 0) rfl (by rw [ex_455]; rfl) (by decide) rfl (fun ls hl => ?_)
        refine lv_goto (tgt := 18) hx hb dL_law_1220 (by decide) ?_
        exact ih (n - 1) (by omega) H locs ls ⟨u_450, v_454, x_455, hu_450, hv_454, (htu_450.trans (htt.trans htv_454.symm)), by omega, by omega, hP, hD, hS, lv_sub hl [0, 1, 2, 3] rfl⟩
