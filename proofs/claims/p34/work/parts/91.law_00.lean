theorem bw_1431 : Cond.classLink RL 7 RX11 ∈ gT := gT_tb 23 (by decide +kernel) (by decide +kernel)
theorem bw_1432 : Cond.initialized yX11_init.cls ∈ gT := gT_tb 1 (by decide +kernel) (by decide +kernel)
theorem bw_1433 : Cond.methodLink RL 9 yX11_init ∈ gT := gT_tb 25 (by decide +kernel) (by decide +kernel)
theorem bw_1434 : Cond.instanceMethod yX11_init ∈ gT := gT_tb 26 (by decide +kernel) (by decide +kernel)
theorem bw_1435 : Cond.classLink RL 10 RX12 ∈ gT := gT_tb 1287 (by decide +kernel) (by decide +kernel)
theorem bw_1436 : Cond.initialized yX12_init.cls ∈ gT := gT_tb 19 (by decide +kernel) (by decide +kernel)
theorem bw_1437 : Cond.methodLink RL 12 yX12_init ∈ gT := gT_tb 1289 (by decide +kernel) (by decide +kernel)
theorem bw_1438 : Cond.instanceMethod yX12_init ∈ gT := gT_tb 1290 (by decide +kernel) (by decide +kernel)
theorem bw_1439 : Cond.methodLink RL 13 yX11_feed ∈ gT := gT_tb 564 (by decide +kernel) (by decide +kernel)
theorem bw_1440 : Cond.instanceMethod yX11_feed ∈ gT := gT_tb 565 (by decide +kernel) (by decide +kernel)
theorem bw_1441 : Cond.selects RX11 yX11_feed yX11_feed ∈ gT := gT_tb 566 (by decide +kernel) (by decide +kernel)
theorem bw_1442 : Cond.methodLink RL 17 yX12_feed ∈ gT := gT_tb 2065 (by decide +kernel) (by decide +kernel)
theorem bw_1443 : Cond.instanceMethod yX12_feed ∈ gT := gT_tb 2066 (by decide +kernel) (by decide +kernel)
theorem bw_1444 : Cond.selects RX12 yX12_feed yX12_feed ∈ gT := gT_tb 2067 (by decide +kernel) (by decide +kernel)
theorem bw_1445 : Cond.methodLink RL 18 yX11_end ∈ gT := gT_tb 572 (by decide +kernel) (by decide +kernel)
theorem bw_1446 : Cond.instanceMethod yX11_end ∈ gT := gT_tb 573 (by decide +kernel) (by decide +kernel)
theorem bw_1447 : Cond.selects RX11 yX11_end yX11_end ∈ gT := gT_tb 574 (by decide +kernel) (by decide +kernel)
theorem bw_1448 : Cond.methodLink RL 22 yX12_end ∈ gT := gT_tb 2069 (by decide +kernel) (by decide +kernel)
theorem bw_1449 : Cond.instanceMethod yX12_end ∈ gT := gT_tb 2070 (by decide +kernel) (by decide +kernel)
theorem bw_1450 : Cond.selects RX12 yX12_end yX12_end ∈ gT := gT_tb 2071 (by decide +kernel) (by decide +kernel)
theorem bw_1451 : Cond.methodLink RL 23 yX11_code ∈ gT := gT_tb 576 (by decide +kernel) (by decide +kernel)
theorem bw_1452 : Cond.instanceMethod yX11_code ∈ gT := gT_tb 577 (by decide +kernel) (by decide +kernel)
theorem bw_1453 : Cond.selects RX11 yX11_code yX11_code ∈ gT := gT_tb 578 (by decide +kernel) (by decide +kernel)
theorem bw_1454 : Cond.methodLink RL 27 yX12_code ∈ gT := gT_tb 1567 (by decide +kernel) (by decide +kernel)
theorem bw_1455 : Cond.instanceMethod yX12_code ∈ gT := gT_tb 1568 (by decide +kernel) (by decide +kernel)
theorem bw_1456 : Cond.selects RX12 yX12_code yX12_code ∈ gT := gT_tb 1569 (by decide +kernel) (by decide +kernel)
theorem bw_1457 : Cond.methodLink RL 28 yX11_fault ∈ gT := gT_tb 835 (by decide +kernel) (by decide +kernel)
theorem bw_1458 : Cond.instanceMethod yX11_fault ∈ gT := gT_tb 836 (by decide +kernel) (by decide +kernel)
theorem bw_1459 : Cond.selects RX11 yX11_fault yX11_fault ∈ gT := gT_tb 837 (by decide +kernel) (by decide +kernel)
theorem bw_1460 : Cond.methodLink RL 31 yX12_fault ∈ gT := gT_tb 1735 (by decide +kernel) (by decide +kernel)
theorem bw_1461 : Cond.instanceMethod yX12_fault ∈ gT := gT_tb 1736 (by decide +kernel) (by decide +kernel)
theorem bw_1462 : Cond.selects RX12 yX12_fault yX12_fault ∈ gT := gT_tb 1737 (by decide +kernel) (by decide +kernel)
theorem bw_1463 : Cond.methodLink RL 32 yX11_man ∈ gT := gT_tb 839 (by decide +kernel) (by decide +kernel)
theorem bw_1464 : Cond.instanceMethod yX11_man ∈ gT := gT_tb 840 (by decide +kernel) (by decide +kernel)
theorem bw_1465 : Cond.selects RX11 yX11_man yX11_man ∈ gT := gT_tb 841 (by decide +kernel) (by decide +kernel)
theorem bw_1466 : Cond.methodLink RL 36 yX12_man ∈ gT := gT_tb 1739 (by decide +kernel) (by decide +kernel)
theorem bw_1467 : Cond.instanceMethod yX12_man ∈ gT := gT_tb 1740 (by decide +kernel) (by decide +kernel)
theorem bw_1468 : Cond.selects RX12 yX12_man yX12_man ∈ gT := gT_tb 1741 (by decide +kernel) (by decide +kernel)
theorem bw_1469 : Cond.methodLink RL 37 yX11_duel ∈ gT := gT_tb 851 (by decide +kernel) (by decide +kernel)
theorem bw_1470 : Cond.instanceMethod yX11_duel ∈ gT := gT_tb 852 (by decide +kernel) (by decide +kernel)
theorem bw_1471 : Cond.selects RX11 yX11_duel yX11_duel ∈ gT := gT_tb 853 (by decide +kernel) (by decide +kernel)
theorem bw_1472 : Cond.methodLink RL 40 yX12_duel ∈ gT := gT_tb 1758 (by decide +kernel) (by decide +kernel)
theorem bw_1473 : Cond.instanceMethod yX12_duel ∈ gT := gT_tb 1759 (by decide +kernel) (by decide +kernel)
theorem bw_1474 : Cond.selects RX12 yX12_duel yX12_duel ∈ gT := gT_tb 1760 (by decide +kernel) (by decide +kernel)
theorem bw_1475 : Cond.methodLink RL 41 yX11_reason ∈ gT := gT_tb 873 (by decide +kernel) (by decide +kernel)
theorem bw_1476 : Cond.instanceMethod yX11_reason ∈ gT := gT_tb 874 (by decide +kernel) (by decide +kernel)
theorem bw_1477 : Cond.selects RX11 yX11_reason yX11_reason ∈ gT := gT_tb 875 (by decide +kernel) (by decide +kernel)
theorem bw_1478 : Cond.methodLink RL 44 yX12_reason ∈ gT := gT_tb 1773 (by decide +kernel) (by decide +kernel)
theorem bw_1479 : Cond.instanceMethod yX12_reason ∈ gT := gT_tb 1774 (by decide +kernel) (by decide +kernel)
theorem bw_1480 : Cond.selects RX12 yX12_reason yX12_reason ∈ gT := gT_tb 1775 (by decide +kernel) (by decide +kernel)
theorem bw_1481 : Cond.methodLink RL 45 yX11_worth ∈ gT := gT_tb 896 (by decide +kernel) (by decide +kernel)
theorem bw_1482 : Cond.instanceMethod yX11_worth ∈ gT := gT_tb 897 (by decide +kernel) (by decide +kernel)
theorem bw_1483 : Cond.selects RX11 yX11_worth yX11_worth ∈ gT := gT_tb 898 (by decide +kernel) (by decide +kernel)
theorem bw_1484 : Cond.methodLink RL 49 yX12_worth ∈ gT := gT_tb 1785 (by decide +kernel) (by decide +kernel)
theorem bw_1485 : Cond.instanceMethod yX12_worth ∈ gT := gT_tb 1786 (by decide +kernel) (by decide +kernel)
theorem bw_1486 : Cond.selects RX12 yX12_worth yX12_worth ∈ gT := gT_tb 1787 (by decide +kernel) (by decide +kernel)
theorem bw_1487 : Cond.methodLink RL 50 yX11_may ∈ gT := gT_tb 917 (by decide +kernel) (by decide +kernel)
theorem bw_1488 : Cond.instanceMethod yX11_may ∈ gT := gT_tb 918 (by decide +kernel) (by decide +kernel)
theorem bw_1489 : Cond.selects RX11 yX11_may yX11_may ∈ gT := gT_tb 919 (by decide +kernel) (by decide +kernel)
theorem bw_1490 : Cond.methodLink RL 53 yX12_may ∈ gT := gT_tb 1804 (by decide +kernel) (by decide +kernel)
theorem bw_1491 : Cond.methodLink RL 54 yX11_next ∈ gT := gT_tb 953 (by decide +kernel) (by decide +kernel)
theorem bw_1492 : Cond.instanceMethod yX11_next ∈ gT := gT_tb 954 (by decide +kernel) (by decide +kernel)
theorem bw_1493 : Cond.selects RX11 yX11_next yX11_next ∈ gT := gT_tb 955 (by decide +kernel) (by decide +kernel)
theorem bw_1494 : Cond.methodLink RL 57 yX12_next ∈ gT := gT_tb 2003 (by decide +kernel) (by decide +kernel)
theorem bw_1495 : Cond.instanceMethod yX12_next ∈ gT := gT_tb 2004 (by decide +kernel) (by decide +kernel)
theorem bw_1496 : Cond.selects RX12 yX12_next yX12_next ∈ gT := gT_tb 2005 (by decide +kernel) (by decide +kernel)
theorem bw_1497 : Cond.methodLink RL 58 yX11_heir ∈ gT := gT_tb 961 (by decide +kernel) (by decide +kernel)
theorem bw_1498 : Cond.instanceMethod yX11_heir ∈ gT := gT_tb 962 (by decide +kernel) (by decide +kernel)
theorem bw_1499 : Cond.selects RX11 yX11_heir yX11_heir ∈ gT := gT_tb 963 (by decide +kernel) (by decide +kernel)
theorem bw_1500 : Cond.methodLink RL 61 yX12_heir ∈ gT := gT_tb 2007 (by decide +kernel) (by decide +kernel)
theorem bw_1501 : Cond.instanceMethod yX12_heir ∈ gT := gT_tb 2008 (by decide +kernel) (by decide +kernel)
theorem bw_1502 : Cond.selects RX12 yX12_heir yX12_heir ∈ gT := gT_tb 2009 (by decide +kernel) (by decide +kernel)
theorem bw_1503 : Cond.methodLink RL 62 yX11_his ∈ gT := gT_tb 969 (by decide +kernel) (by decide +kernel)
theorem bw_1504 : Cond.instanceMethod yX11_his ∈ gT := gT_tb 970 (by decide +kernel) (by decide +kernel)
theorem bw_1505 : Cond.selects RX11 yX11_his yX11_his ∈ gT := gT_tb 971 (by decide +kernel) (by decide +kernel)
theorem bw_1506 : Cond.methodLink RL 65 yX12_his ∈ gT := gT_tb 2011 (by decide +kernel) (by decide +kernel)
theorem bw_1507 : Cond.instanceMethod yX12_his ∈ gT := gT_tb 2012 (by decide +kernel) (by decide +kernel)
theorem bw_1508 : Cond.selects RX12 yX12_his yX12_his ∈ gT := gT_tb 2013 (by decide +kernel) (by decide +kernel)
theorem bw_1509 : Cond.methodLink RL 66 yX11_comes ∈ gT := gT_tb 977 (by decide +kernel) (by decide +kernel)
theorem bw_1510 : Cond.instanceMethod yX11_comes ∈ gT := gT_tb 978 (by decide +kernel) (by decide +kernel)
theorem bw_1511 : Cond.selects RX11 yX11_comes yX11_comes ∈ gT := gT_tb 979 (by decide +kernel) (by decide +kernel)
theorem bw_1512 : Cond.methodLink RL 69 yX12_comes ∈ gT := gT_tb 2016 (by decide +kernel) (by decide +kernel)
theorem bw_1513 : Cond.instanceMethod yX12_comes ∈ gT := gT_tb 2017 (by decide +kernel) (by decide +kernel)
theorem bw_1514 : Cond.selects RX12 yX12_comes yX12_comes ∈ gT := gT_tb 2018 (by decide +kernel) (by decide +kernel)
theorem bw_1515 : Cond.methodLink RL 70 yX11_put ∈ gT := gT_tb 981 (by decide +kernel) (by decide +kernel)
theorem bw_1516 : Cond.instanceMethod yX11_put ∈ gT := gT_tb 982 (by decide +kernel) (by decide +kernel)
theorem bw_1517 : Cond.selects RX11 yX11_put yX11_put ∈ gT := gT_tb 983 (by decide +kernel) (by decide +kernel)
theorem bw_1518 : Cond.methodLink RL 73 yX12_put ∈ gT := gT_tb 1839 (by decide +kernel) (by decide +kernel)
theorem bw_1519 : Cond.instanceMethod yX12_put ∈ gT := gT_tb 1840 (by decide +kernel) (by decide +kernel)
theorem bw_1520 : Cond.selects RX12 yX12_put yX12_put ∈ gT := gT_tb 1841 (by decide +kernel) (by decide +kernel)
theorem bw_1521 : Cond.methodLink RL 74 yX11_rent ∈ gT := gT_tb 1008 (by decide +kernel) (by decide +kernel)
theorem bw_1522 : Cond.instanceMethod yX11_rent ∈ gT := gT_tb 1009 (by decide +kernel) (by decide +kernel)
theorem bw_1523 : Cond.selects RX11 yX11_rent yX11_rent ∈ gT := gT_tb 1010 (by decide +kernel) (by decide +kernel)
theorem bw_1524 : Cond.methodLink RL 77 yX12_rent ∈ gT := gT_tb 1850 (by decide +kernel) (by decide +kernel)
theorem bw_1525 : Cond.instanceMethod yX12_rent ∈ gT := gT_tb 1851 (by decide +kernel) (by decide +kernel)
theorem bw_1526 : Cond.selects RX12 yX12_rent yX12_rent ∈ gT := gT_tb 1852 (by decide +kernel) (by decide +kernel)
theorem bw_1527 : Cond.methodLink RL 78 yX11_strike ∈ gT := gT_tb 1013 (by decide +kernel) (by decide +kernel)
theorem bw_1528 : Cond.instanceMethod yX11_strike ∈ gT := gT_tb 1014 (by decide +kernel) (by decide +kernel)
theorem bw_1529 : Cond.selects RX11 yX11_strike yX11_strike ∈ gT := gT_tb 1015 (by decide +kernel) (by decide +kernel)
theorem bw_1530 : Cond.methodLink RL 82 yX12_strike ∈ gT := gT_tb 1854 (by decide +kernel) (by decide +kernel)
theorem bw_1531 : Cond.instanceMethod yX12_strike ∈ gT := gT_tb 1855 (by decide +kernel) (by decide +kernel)
theorem bw_1532 : Cond.selects RX12 yX12_strike yX12_strike ∈ gT := gT_tb 1856 (by decide +kernel) (by decide +kernel)
theorem bw_1533 : Cond.methodLink RL 83 yX11_insult ∈ gT := gT_tb 1017 (by decide +kernel) (by decide +kernel)
theorem bw_1534 : Cond.instanceMethod yX11_insult ∈ gT := gT_tb 1018 (by decide +kernel) (by decide +kernel)
theorem bw_1535 : Cond.selects RX11 yX11_insult yX11_insult ∈ gT := gT_tb 1019 (by decide +kernel) (by decide +kernel)
theorem bw_1536 : Cond.methodLink RL 86 yX12_insult ∈ gT := gT_tb 1858 (by decide +kernel) (by decide +kernel)
theorem bw_1537 : Cond.instanceMethod yX12_insult ∈ gT := gT_tb 1859 (by decide +kernel) (by decide +kernel)
theorem bw_1538 : Cond.selects RX12 yX12_insult yX12_insult ∈ gT := gT_tb 1860 (by decide +kernel) (by decide +kernel)
theorem bw_1539 : Cond.methodLink RL 87 yX11_days ∈ gT := gT_tb 1027 (by decide +kernel) (by decide +kernel)
theorem bw_1540 : Cond.instanceMethod yX11_days ∈ gT := gT_tb 1028 (by decide +kernel) (by decide +kernel)
theorem bw_1541 : Cond.selects RX11 yX11_days yX11_days ∈ gT := gT_tb 1029 (by decide +kernel) (by decide +kernel)
theorem bw_1542 : Cond.methodLink RL 90 yX12_days ∈ gT := gT_tb 1870 (by decide +kernel) (by decide +kernel)
theorem bw_1543 : Cond.instanceMethod yX12_days ∈ gT := gT_tb 1871 (by decide +kernel) (by decide +kernel)
theorem bw_1544 : Cond.selects RX12 yX12_days yX12_days ∈ gT := gT_tb 1872 (by decide +kernel) (by decide +kernel)
theorem bw_1545 : Cond.methodLink RL 91 yX11_undo ∈ gT := gT_tb 1045 (by decide +kernel) (by decide +kernel)
theorem bw_1546 : Cond.instanceMethod yX11_undo ∈ gT := gT_tb 1046 (by decide +kernel) (by decide +kernel)
theorem bw_1547 : Cond.selects RX11 yX11_undo yX11_undo ∈ gT := gT_tb 1047 (by decide +kernel) (by decide +kernel)
theorem bw_1548 : Cond.methodLink RL 95 yX12_undo ∈ gT := gT_tb 1890 (by decide +kernel) (by decide +kernel)
theorem bw_1549 : Cond.instanceMethod yX12_undo ∈ gT := gT_tb 1891 (by decide +kernel) (by decide +kernel)
theorem bw_1550 : Cond.selects RX12 yX12_undo yX12_undo ∈ gT := gT_tb 1892 (by decide +kernel) (by decide +kernel)
theorem bw_1551 : Cond.methodLink RL 96 yX11_redo ∈ gT := gT_tb 1049 (by decide +kernel) (by decide +kernel)
theorem bw_1552 : Cond.instanceMethod yX11_redo ∈ gT := gT_tb 1050 (by decide +kernel) (by decide +kernel)
theorem bw_1553 : Cond.selects RX11 yX11_redo yX11_redo ∈ gT := gT_tb 1051 (by decide +kernel) (by decide +kernel)
theorem bw_1554 : Cond.methodLink RL 99 yX12_redo ∈ gT := gT_tb 1898 (by decide +kernel) (by decide +kernel)
theorem bw_1555 : Cond.instanceMethod yX12_redo ∈ gT := gT_tb 1899 (by decide +kernel) (by decide +kernel)
theorem bw_1556 : Cond.selects RX12 yX12_redo yX12_redo ∈ gT := gT_tb 1900 (by decide +kernel) (by decide +kernel)
theorem bw_1557 : Cond.methodLink RL 100 yX11_life ∈ gT := gT_tb 1053 (by decide +kernel) (by decide +kernel)
theorem bw_1558 : Cond.instanceMethod yX11_life ∈ gT := gT_tb 1054 (by decide +kernel) (by decide +kernel)
theorem bw_1559 : Cond.selects RX11 yX11_life yX11_life ∈ gT := gT_tb 1055 (by decide +kernel) (by decide +kernel)
theorem bw_1560 : Cond.methodLink RL 103 yX12_life ∈ gT := gT_tb 1906 (by decide +kernel) (by decide +kernel)
theorem bw_1561 : Cond.instanceMethod yX12_life ∈ gT := gT_tb 1907 (by decide +kernel) (by decide +kernel)
theorem bw_1562 : Cond.selects RX12 yX12_life yX12_life ∈ gT := gT_tb 1908 (by decide +kernel) (by decide +kernel)
theorem bw_1563 : Cond.methodLink RL 104 yX11_late ∈ gT := gT_tb 1129 (by decide +kernel) (by decide +kernel)
theorem bw_1564 : Cond.instanceMethod yX11_late ∈ gT := gT_tb 1130 (by decide +kernel) (by decide +kernel)
theorem bw_1565 : Cond.selects RX11 yX11_late yX11_late ∈ gT := gT_tb 1131 (by decide +kernel) (by decide +kernel)
theorem bw_1566 : Cond.methodLink RL 107 yX12_late ∈ gT := gT_tb 1946 (by decide +kernel) (by decide +kernel)
theorem bw_1567 : Cond.instanceMethod yX12_late ∈ gT := gT_tb 1947 (by decide +kernel) (by decide +kernel)
theorem bw_1568 : Cond.selects RX12 yX12_late yX12_late ∈ gT := gT_tb 1948 (by decide +kernel) (by decide +kernel)
theorem bw_1569 : Cond.methodLink RL 108 yX11_last ∈ gT := gT_tb 1138 (by decide +kernel) (by decide +kernel)
theorem bw_1570 : Cond.instanceMethod yX11_last ∈ gT := gT_tb 1139 (by decide +kernel) (by decide +kernel)
theorem bw_1571 : Cond.selects RX11 yX11_last yX11_last ∈ gT := gT_tb 1140 (by decide +kernel) (by decide +kernel)
theorem bw_1572 : Cond.methodLink RL 111 yX12_last ∈ gT := gT_tb 1950 (by decide +kernel) (by decide +kernel)
theorem bw_1573 : Cond.instanceMethod yX12_last ∈ gT := gT_tb 1951 (by decide +kernel) (by decide +kernel)
theorem bw_1574 : Cond.selects RX12 yX12_last yX12_last ∈ gT := gT_tb 1952 (by decide +kernel) (by decide +kernel)
theorem bw_1575 : Cond.methodLink RL 112 yX11_shun ∈ gT := gT_tb 1151 (by decide +kernel) (by decide +kernel)
theorem bw_1576 : Cond.instanceMethod yX11_shun ∈ gT := gT_tb 1152 (by decide +kernel) (by decide +kernel)
theorem bw_1577 : Cond.selects RX11 yX11_shun yX11_shun ∈ gT := gT_tb 1153 (by decide +kernel) (by decide +kernel)
theorem bw_1578 : Cond.methodLink RL 115 yX12_shun ∈ gT := gT_tb 1958 (by decide +kernel) (by decide +kernel)
theorem bw_1579 : Cond.instanceMethod yX12_shun ∈ gT := gT_tb 1959 (by decide +kernel) (by decide +kernel)
theorem bw_1580 : Cond.selects RX12 yX12_shun yX12_shun ∈ gT := gT_tb 1960 (by decide +kernel) (by decide +kernel)
theorem bw_1581 : Cond.methodLink RL 116 yX11_hire ∈ gT := gT_tb 1157 (by decide +kernel) (by decide +kernel)
theorem bw_1582 : Cond.instanceMethod yX11_hire ∈ gT := gT_tb 1158 (by decide +kernel) (by decide +kernel)
theorem bw_1583 : Cond.selects RX11 yX11_hire yX11_hire ∈ gT := gT_tb 1159 (by decide +kernel) (by decide +kernel)
theorem bw_1584 : Cond.methodLink RL 119 yX12_hire ∈ gT := gT_tb 1962 (by decide +kernel) (by decide +kernel)
theorem bw_1585 : Cond.instanceMethod yX12_hire ∈ gT := gT_tb 1963 (by decide +kernel) (by decide +kernel)
theorem bw_1586 : Cond.selects RX12 yX12_hire yX12_hire ∈ gT := gT_tb 1964 (by decide +kernel) (by decide +kernel)
theorem bw_1587 : Cond.methodLink RL 120 yX11_clash ∈ gT := gT_tb 1170 (by decide +kernel) (by decide +kernel)
theorem bw_1588 : Cond.instanceMethod yX11_clash ∈ gT := gT_tb 1171 (by decide +kernel) (by decide +kernel)
theorem bw_1589 : Cond.selects RX11 yX11_clash yX11_clash ∈ gT := gT_tb 1172 (by decide +kernel) (by decide +kernel)
theorem bw_1590 : Cond.methodLink RL 123 yX12_clash ∈ gT := gT_tb 1974 (by decide +kernel) (by decide +kernel)
theorem bw_1591 : Cond.methodLink RL 124 yX11_part ∈ gT := gT_tb 1182 (by decide +kernel) (by decide +kernel)
theorem bw_1592 : Cond.instanceMethod yX11_part ∈ gT := gT_tb 1183 (by decide +kernel) (by decide +kernel)
theorem bw_1593 : Cond.selects RX11 yX11_part yX11_part ∈ gT := gT_tb 1184 (by decide +kernel) (by decide +kernel)
theorem bw_1594 : Cond.methodLink RL 127 yX12_part ∈ gT := gT_tb 1982 (by decide +kernel) (by decide +kernel)
theorem bw_1595 : Cond.instanceMethod yX12_part ∈ gT := gT_tb 1983 (by decide +kernel) (by decide +kernel)
theorem bw_1596 : Cond.selects RX12 yX12_part yX12_part ∈ gT := gT_tb 1984 (by decide +kernel) (by decide +kernel)
theorem bw_1597 : Cond.methodLink RL 128 yX11_lies ∈ gT := gT_tb 1230 (by decide +kernel) (by decide +kernel)
theorem bw_1598 : Cond.instanceMethod yX11_lies ∈ gT := gT_tb 1231 (by decide +kernel) (by decide +kernel)
theorem bw_1599 : Cond.selects RX11 yX11_lies yX11_lies ∈ gT := gT_tb 1232 (by decide +kernel) (by decide +kernel)
theorem bw_1600 : Cond.methodLink RL 131 yX12_lies ∈ gT := gT_tb 1902 (by decide +kernel) (by decide +kernel)
theorem bw_1601 : Cond.instanceMethod yX12_lies ∈ gT := gT_tb 1903 (by decide +kernel) (by decide +kernel)
theorem bw_1602 : Cond.selects RX12 yX12_lies yX12_lies ∈ gT := gT_tb 1904 (by decide +kernel) (by decide +kernel)
theorem bw_1603 : Cond.methodLink RL 132 yX11_log ∈ gT := gT_tb 1234 (by decide +kernel) (by decide +kernel)
theorem bw_1604 : Cond.instanceMethod yX11_log ∈ gT := gT_tb 1235 (by decide +kernel) (by decide +kernel)
theorem bw_1605 : Cond.selects RX11 yX11_log yX11_log ∈ gT := gT_tb 1236 (by decide +kernel) (by decide +kernel)
theorem bw_1606 : Cond.methodLink RL 135 yX12_log ∈ gT := gT_tb 2020 (by decide +kernel) (by decide +kernel)
theorem bw_1607 : Cond.instanceMethod yX12_log ∈ gT := gT_tb 2021 (by decide +kernel) (by decide +kernel)
theorem bw_1608 : Cond.selects RX12 yX12_log yX12_log ∈ gT := gT_tb 2022 (by decide +kernel) (by decide +kernel)
theorem bw_1609 : Cond.methodLink RL 136 yX11_began ∈ gT := gT_tb 1242 (by decide +kernel) (by decide +kernel)
theorem bw_1610 : Cond.instanceMethod yX11_began ∈ gT := gT_tb 1243 (by decide +kernel) (by decide +kernel)
theorem bw_1611 : Cond.selects RX11 yX11_began yX11_began ∈ gT := gT_tb 1244 (by decide +kernel) (by decide +kernel)
theorem bw_1612 : Cond.methodLink RL 139 yX12_began ∈ gT := gT_tb 2024 (by decide +kernel) (by decide +kernel)
theorem bw_1613 : Cond.instanceMethod yX12_began ∈ gT := gT_tb 2025 (by decide +kernel) (by decide +kernel)
theorem bw_1614 : Cond.selects RX12 yX12_began yX12_began ∈ gT := gT_tb 2026 (by decide +kernel) (by decide +kernel)
theorem bw_1615 : Cond.methodLink RL 140 yX11_sight ∈ gT := gT_tb 1246 (by decide +kernel) (by decide +kernel)
theorem bw_1616 : Cond.instanceMethod yX11_sight ∈ gT := gT_tb 1247 (by decide +kernel) (by decide +kernel)
theorem bw_1617 : Cond.selects RX11 yX11_sight yX11_sight ∈ gT := gT_tb 1248 (by decide +kernel) (by decide +kernel)
theorem bw_1618 : Cond.methodLink RL 143 yX12_sight ∈ gT := gT_tb 2028 (by decide +kernel) (by decide +kernel)
theorem bw_1619 : Cond.instanceMethod yX12_sight ∈ gT := gT_tb 2029 (by decide +kernel) (by decide +kernel)
theorem bw_1620 : Cond.selects RX12 yX12_sight yX12_sight ∈ gT := gT_tb 2030 (by decide +kernel) (by decide +kernel)
theorem bw_1621 : Cond.methodLink RL 144 yX11_untell ∈ gT := gT_tb 1254 (by decide +kernel) (by decide +kernel)
theorem bw_1622 : Cond.instanceMethod yX11_untell ∈ gT := gT_tb 1255 (by decide +kernel) (by decide +kernel)
theorem bw_1623 : Cond.selects RX11 yX11_untell yX11_untell ∈ gT := gT_tb 1256 (by decide +kernel) (by decide +kernel)
theorem bw_1624 : Cond.methodLink RL 147 yX12_untell ∈ gT := gT_tb 2032 (by decide +kernel) (by decide +kernel)
theorem bw_1625 : Cond.instanceMethod yX12_untell ∈ gT := gT_tb 2033 (by decide +kernel) (by decide +kernel)
theorem bw_1626 : Cond.selects RX12 yX12_untell yX12_untell ∈ gT := gT_tb 2034 (by decide +kernel) (by decide +kernel)
theorem bw_1627 : Cond.methodLink RL 148 yX11_later ∈ gT := gT_tb 1262 (by decide +kernel) (by decide +kernel)
theorem bw_1628 : Cond.instanceMethod yX11_later ∈ gT := gT_tb 1263 (by decide +kernel) (by decide +kernel)
theorem bw_1629 : Cond.selects RX11 yX11_later yX11_later ∈ gT := gT_tb 1264 (by decide +kernel) (by decide +kernel)
theorem bw_1630 : Cond.methodLink RL 151 yX12_later ∈ gT := gT_tb 2036 (by decide +kernel) (by decide +kernel)

theorem bw_1631 : Cond.instanceMethod yX12_later ∈ gT := gT_tb 2037 (by decide +kernel) (by decide +kernel)
theorem bw_1632 : Cond.selects RX12 yX12_later yX12_later ∈ gT := gT_tb 2038 (by decide +kernel) (by decide +kernel)
theorem bw_1633 : Cond.methodLink RL 152 yX11_falses ∈ gT := gT_tb 1267 (by decide +kernel) (by decide +kernel)
theorem bw_1634 : Cond.instanceMethod yX11_falses ∈ gT := gT_tb 1268 (by decide +kernel) (by decide +kernel)
theorem bw_1635 : Cond.selects RX11 yX11_falses yX11_falses ∈ gT := gT_tb 1269 (by decide +kernel) (by decide +kernel)
theorem bw_1636 : Cond.methodLink RL 155 yX12_falses ∈ gT := gT_tb 2041 (by decide +kernel) (by decide +kernel)
theorem bw_1637 : Cond.instanceMethod yX12_falses ∈ gT := gT_tb 2042 (by decide +kernel) (by decide +kernel)
theorem bw_1638 : Cond.selects RX12 yX12_falses yX12_falses ∈ gT := gT_tb 2043 (by decide +kernel) (by decide +kernel)
theorem bw_1639 : Cond.methodLink RL 156 yX11_image ∈ gT := gT_tb 1275 (by decide +kernel) (by decide +kernel)
theorem bw_1640 : Cond.instanceMethod yX11_image ∈ gT := gT_tb 1276 (by decide +kernel) (by decide +kernel)
theorem bw_1641 : Cond.selects RX11 yX11_image yX11_image ∈ gT := gT_tb 1277 (by decide +kernel) (by decide +kernel)
theorem bw_1642 : Cond.methodLink RL 159 yX12_image ∈ gT := gT_tb 2049 (by decide +kernel) (by decide +kernel)
theorem bw_1643 : Cond.instanceMethod yX12_image ∈ gT := gT_tb 2050 (by decide +kernel) (by decide +kernel)
theorem bw_1644 : Cond.selects RX12 yX12_image yX12_image ∈ gT := gT_tb 2051 (by decide +kernel) (by decide +kernel)
theorem bw_1645 : Cond.methodLink RL 160 yX11_back ∈ gT := gT_tb 1279 (by decide +kernel) (by decide +kernel)
theorem bw_1646 : Cond.instanceMethod yX11_back ∈ gT := gT_tb 1280 (by decide +kernel) (by decide +kernel)
theorem bw_1647 : Cond.selects RX11 yX11_back yX11_back ∈ gT := gT_tb 1281 (by decide +kernel) (by decide +kernel)
theorem bw_1648 : Cond.methodLink RL 163 yX12_back ∈ gT := gT_tb 2053 (by decide +kernel) (by decide +kernel)
theorem bw_1649 : Cond.instanceMethod yX12_back ∈ gT := gT_tb 2054 (by decide +kernel) (by decide +kernel)
theorem bw_1650 : Cond.selects RX12 yX12_back yX12_back ∈ gT := gT_tb 2055 (by decide +kernel) (by decide +kernel)
theorem bw_1651 : Cond.methodLink RL 164 yX11_about ∈ gT := gT_tb 1283 (by decide +kernel) (by decide +kernel)
theorem bw_1652 : Cond.instanceMethod yX11_about ∈ gT := gT_tb 1284 (by decide +kernel) (by decide +kernel)
theorem bw_1653 : Cond.selects RX11 yX11_about yX11_about ∈ gT := gT_tb 1285 (by decide +kernel) (by decide +kernel)
theorem bw_1654 : Cond.methodLink RL 167 yX12_about ∈ gT := gT_tb 2057 (by decide +kernel) (by decide +kernel)
theorem bw_1655 : Cond.instanceMethod yX12_about ∈ gT := gT_tb 2058 (by decide +kernel) (by decide +kernel)
theorem bw_1656 : Cond.selects RX12 yX12_about yX12_about ∈ gT := gT_tb 2059 (by decide +kernel) (by decide +kernel)
theorem dL_law_0 : decode cL_law 0 = .ok (.new 7, 3) := by decide +kernel
theorem dL_law_3 : decode cL_law 3 = .ok (.dup, 1) := by decide +kernel
theorem dL_law_4 : decode cL_law 4 = .ok (.invokespecial 9, 3) := by decide +kernel
theorem dL_law_7 : decode cL_law 7 = .ok (.astore_n 1, 1) := by decide +kernel
theorem dL_law_8 : decode cL_law 8 = .ok (.new 10, 3) := by decide +kernel
theorem dL_law_11 : decode cL_law 11 = .ok (.dup, 1) := by decide +kernel
theorem dL_law_12 : decode cL_law 12 = .ok (.invokespecial 12, 3) := by decide +kernel
theorem dL_law_15 : decode cL_law 15 = .ok (.astore_n 2, 1) := by decide +kernel
theorem dL_law_16 : decode cL_law 16 = .ok (.iconst 0, 1) := by decide +kernel
theorem dL_law_17 : decode cL_law 17 = .ok (.istore_n 3, 1) := by decide +kernel
theorem dL_law_18 : decode cL_law 18 = .ok (.iload_n 3, 1) := by decide +kernel
theorem dL_law_19 : decode cL_law 19 = .ok (.aload_n 0, 1) := by decide +kernel
theorem dL_law_20 : decode cL_law 20 = .ok (.arraylength, 1) := by decide +kernel
theorem dL_law_21 : decode cL_law 21 = .ok (.bipush 6, 2) := by decide +kernel
theorem dL_law_23 : decode cL_law 23 = .ok (.isub, 1) := by decide +kernel
theorem dL_law_24 : decode cL_law 24 = .ok (.if_icmp .gt 1199, 3) := by decide +kernel
theorem dL_law_27 : decode cL_law 27 = .ok (.aload_n 0, 1) := by decide +kernel
theorem dL_law_28 : decode cL_law 28 = .ok (.iload_n 3, 1) := by decide +kernel
theorem dL_law_29 : decode cL_law 29 = .ok (.iaload, 1) := by decide +kernel
theorem dL_law_30 : decode cL_law 30 = .ok (.bipush 63, 2) := by decide +kernel
theorem dL_law_32 : decode cL_law 32 = .ok (.iand, 1) := by decide +kernel
theorem dL_law_33 : decode cL_law 33 = .ok (.tableswitch 1184 0 36 #[163, 226, 249, 262, 285, 318, 351, 384, 427, 460, 483, 506, 529, 562, 605, 638, 661, 694, 717, 730, 743, 766, 799, 832, 855, 888, 911, 934, 957, 990, 1013, 1046, 1069, 1092, 1115, 1138, 1161], 163) := by decide +kernel
theorem dL_law_196 : decode cL_law 196 = .ok (.aload_n 1, 1) := by decide +kernel
theorem dL_law_197 : decode cL_law 197 = .ok (.aload_n 0, 1) := by decide +kernel
theorem dL_law_198 : decode cL_law 198 = .ok (.iload_n 3, 1) := by decide +kernel
theorem dL_law_199 : decode cL_law 199 = .ok (.iconst 1, 1) := by decide +kernel
theorem dL_law_200 : decode cL_law 200 = .ok (.iadd, 1) := by decide +kernel
theorem dL_law_201 : decode cL_law 201 = .ok (.iaload, 1) := by decide +kernel
theorem dL_law_202 : decode cL_law 202 = .ok (.aload_n 0, 1) := by decide +kernel
theorem dL_law_203 : decode cL_law 203 = .ok (.iload_n 3, 1) := by decide +kernel
theorem dL_law_204 : decode cL_law 204 = .ok (.iconst 2, 1) := by decide +kernel
theorem dL_law_205 : decode cL_law 205 = .ok (.iadd, 1) := by decide +kernel
theorem dL_law_206 : decode cL_law 206 = .ok (.iaload, 1) := by decide +kernel
theorem dL_law_207 : decode cL_law 207 = .ok (.aload_n 0, 1) := by decide +kernel
theorem dL_law_208 : decode cL_law 208 = .ok (.iload_n 3, 1) := by decide +kernel
theorem dL_law_209 : decode cL_law 209 = .ok (.iconst 3, 1) := by decide +kernel
theorem dL_law_210 : decode cL_law 210 = .ok (.iadd, 1) := by decide +kernel
theorem dL_law_211 : decode cL_law 211 = .ok (.iaload, 1) := by decide +kernel
theorem dL_law_212 : decode cL_law 212 = .ok (.aload_n 0, 1) := by decide +kernel
theorem dL_law_213 : decode cL_law 213 = .ok (.iload_n 3, 1) := by decide +kernel
theorem dL_law_214 : decode cL_law 214 = .ok (.iconst 4, 1) := by decide +kernel
theorem dL_law_215 : decode cL_law 215 = .ok (.iadd, 1) := by decide +kernel
theorem dL_law_216 : decode cL_law 216 = .ok (.iaload, 1) := by decide +kernel
theorem dL_law_217 : decode cL_law 217 = .ok (.aload_n 0, 1) := by decide +kernel
theorem dL_law_218 : decode cL_law 218 = .ok (.iload_n 3, 1) := by decide +kernel
theorem dL_law_219 : decode cL_law 219 = .ok (.iconst 5, 1) := by decide +kernel
theorem dL_law_220 : decode cL_law 220 = .ok (.iadd, 1) := by decide +kernel
theorem dL_law_221 : decode cL_law 221 = .ok (.iaload, 1) := by decide +kernel
theorem dL_law_222 : decode cL_law 222 = .ok (.invokevirtual 13, 3) := by decide +kernel
theorem dL_law_225 : decode cL_law 225 = .ok (.pop, 1) := by decide +kernel
theorem dL_law_226 : decode cL_law 226 = .ok (.aload_n 2, 1) := by decide +kernel
theorem dL_law_227 : decode cL_law 227 = .ok (.aload_n 0, 1) := by decide +kernel
theorem dL_law_228 : decode cL_law 228 = .ok (.iload_n 3, 1) := by decide +kernel
theorem dL_law_229 : decode cL_law 229 = .ok (.iconst 1, 1) := by decide +kernel
theorem dL_law_230 : decode cL_law 230 = .ok (.iadd, 1) := by decide +kernel
theorem dL_law_231 : decode cL_law 231 = .ok (.iaload, 1) := by decide +kernel
theorem dL_law_232 : decode cL_law 232 = .ok (.aload_n 0, 1) := by decide +kernel
theorem dL_law_233 : decode cL_law 233 = .ok (.iload_n 3, 1) := by decide +kernel
theorem dL_law_234 : decode cL_law 234 = .ok (.iconst 2, 1) := by decide +kernel
theorem dL_law_235 : decode cL_law 235 = .ok (.iadd, 1) := by decide +kernel
theorem dL_law_236 : decode cL_law 236 = .ok (.iaload, 1) := by decide +kernel
theorem dL_law_237 : decode cL_law 237 = .ok (.aload_n 0, 1) := by decide +kernel
theorem dL_law_238 : decode cL_law 238 = .ok (.iload_n 3, 1) := by decide +kernel
theorem dL_law_239 : decode cL_law 239 = .ok (.iconst 3, 1) := by decide +kernel
theorem dL_law_240 : decode cL_law 240 = .ok (.iadd, 1) := by decide +kernel
theorem dL_law_241 : decode cL_law 241 = .ok (.iaload, 1) := by decide +kernel
theorem dL_law_242 : decode cL_law 242 = .ok (.aload_n 0, 1) := by decide +kernel
theorem dL_law_243 : decode cL_law 243 = .ok (.iload_n 3, 1) := by decide +kernel
theorem dL_law_244 : decode cL_law 244 = .ok (.iconst 4, 1) := by decide +kernel
theorem dL_law_245 : decode cL_law 245 = .ok (.iadd, 1) := by decide +kernel
theorem dL_law_246 : decode cL_law 246 = .ok (.iaload, 1) := by decide +kernel
theorem dL_law_247 : decode cL_law 247 = .ok (.aload_n 0, 1) := by decide +kernel
theorem dL_law_248 : decode cL_law 248 = .ok (.iload_n 3, 1) := by decide +kernel
theorem dL_law_249 : decode cL_law 249 = .ok (.iconst 5, 1) := by decide +kernel
theorem dL_law_250 : decode cL_law 250 = .ok (.iadd, 1) := by decide +kernel
theorem dL_law_251 : decode cL_law 251 = .ok (.iaload, 1) := by decide +kernel
theorem dL_law_252 : decode cL_law 252 = .ok (.invokevirtual 17, 3) := by decide +kernel
theorem dL_law_255 : decode cL_law 255 = .ok (.pop, 1) := by decide +kernel
theorem dL_law_256 : decode cL_law 256 = .ok (.goto 961, 3) := by decide +kernel
theorem dL_law_259 : decode cL_law 259 = .ok (.aload_n 1, 1) := by decide +kernel
theorem dL_law_260 : decode cL_law 260 = .ok (.aload_n 0, 1) := by decide +kernel
theorem dL_law_261 : decode cL_law 261 = .ok (.iload_n 3, 1) := by decide +kernel
theorem dL_law_262 : decode cL_law 262 = .ok (.iconst 1, 1) := by decide +kernel
theorem dL_law_263 : decode cL_law 263 = .ok (.iadd, 1) := by decide +kernel
theorem dL_law_264 : decode cL_law 264 = .ok (.iaload, 1) := by decide +kernel
theorem dL_law_265 : decode cL_law 265 = .ok (.invokevirtual 18, 3) := by decide +kernel
theorem dL_law_268 : decode cL_law 268 = .ok (.pop, 1) := by decide +kernel
theorem dL_law_269 : decode cL_law 269 = .ok (.aload_n 2, 1) := by decide +kernel
theorem dL_law_270 : decode cL_law 270 = .ok (.aload_n 0, 1) := by decide +kernel
theorem dL_law_271 : decode cL_law 271 = .ok (.iload_n 3, 1) := by decide +kernel
theorem dL_law_272 : decode cL_law 272 = .ok (.iconst 1, 1) := by decide +kernel
theorem dL_law_273 : decode cL_law 273 = .ok (.iadd, 1) := by decide +kernel
theorem dL_law_274 : decode cL_law 274 = .ok (.iaload, 1) := by decide +kernel
theorem dL_law_275 : decode cL_law 275 = .ok (.invokevirtual 22, 3) := by decide +kernel
theorem dL_law_278 : decode cL_law 278 = .ok (.pop, 1) := by decide +kernel
theorem dL_law_279 : decode cL_law 279 = .ok (.goto 938, 3) := by decide +kernel
theorem dL_law_282 : decode cL_law 282 = .ok (.aload_n 1, 1) := by decide +kernel
theorem dL_law_283 : decode cL_law 283 = .ok (.invokevirtual 23, 3) := by decide +kernel
theorem dL_law_286 : decode cL_law 286 = .ok (.pop, 1) := by decide +kernel
theorem dL_law_287 : decode cL_law 287 = .ok (.aload_n 2, 1) := by decide +kernel
theorem dL_law_288 : decode cL_law 288 = .ok (.invokevirtual 27, 3) := by decide +kernel
theorem dL_law_291 : decode cL_law 291 = .ok (.pop, 1) := by decide +kernel
theorem dL_law_292 : decode cL_law 292 = .ok (.goto 925, 3) := by decide +kernel
theorem dL_law_295 : decode cL_law 295 = .ok (.aload_n 1, 1) := by decide +kernel
theorem dL_law_296 : decode cL_law 296 = .ok (.aload_n 0, 1) := by decide +kernel
theorem dL_law_297 : decode cL_law 297 = .ok (.iload_n 3, 1) := by decide +kernel
theorem dL_law_298 : decode cL_law 298 = .ok (.iconst 1, 1) := by decide +kernel
theorem dL_law_299 : decode cL_law 299 = .ok (.iadd, 1) := by decide +kernel
theorem dL_law_300 : decode cL_law 300 = .ok (.iaload, 1) := by decide +kernel
theorem dL_law_301 : decode cL_law 301 = .ok (.invokevirtual 28, 3) := by decide +kernel
theorem dL_law_304 : decode cL_law 304 = .ok (.pop, 1) := by decide +kernel
theorem dL_law_305 : decode cL_law 305 = .ok (.aload_n 2, 1) := by decide +kernel
theorem dL_law_306 : decode cL_law 306 = .ok (.aload_n 0, 1) := by decide +kernel
theorem dL_law_307 : decode cL_law 307 = .ok (.iload_n 3, 1) := by decide +kernel
theorem dL_law_308 : decode cL_law 308 = .ok (.iconst 1, 1) := by decide +kernel
theorem dL_law_309 : decode cL_law 309 = .ok (.iadd, 1) := by decide +kernel
theorem dL_law_310 : decode cL_law 310 = .ok (.iaload, 1) := by decide +kernel
theorem dL_law_311 : decode cL_law 311 = .ok (.invokevirtual 31, 3) := by decide +kernel
theorem dL_law_314 : decode cL_law 314 = .ok (.pop, 1) := by decide +kernel
theorem dL_law_315 : decode cL_law 315 = .ok (.goto 902, 3) := by decide +kernel
theorem dL_law_318 : decode cL_law 318 = .ok (.aload_n 1, 1) := by decide +kernel
theorem dL_law_319 : decode cL_law 319 = .ok (.aload_n 0, 1) := by decide +kernel
theorem dL_law_320 : decode cL_law 320 = .ok (.iload_n 3, 1) := by decide +kernel
theorem dL_law_321 : decode cL_law 321 = .ok (.iconst 1, 1) := by decide +kernel
theorem dL_law_322 : decode cL_law 322 = .ok (.iadd, 1) := by decide +kernel
theorem dL_law_323 : decode cL_law 323 = .ok (.iaload, 1) := by decide +kernel
theorem dL_law_324 : decode cL_law 324 = .ok (.aload_n 0, 1) := by decide +kernel
theorem dL_law_325 : decode cL_law 325 = .ok (.iload_n 3, 1) := by decide +kernel
theorem dL_law_326 : decode cL_law 326 = .ok (.iconst 2, 1) := by decide +kernel
theorem dL_law_327 : decode cL_law 327 = .ok (.iadd, 1) := by decide +kernel
theorem dL_law_328 : decode cL_law 328 = .ok (.iaload, 1) := by decide +kernel
theorem dL_law_329 : decode cL_law 329 = .ok (.invokevirtual 32, 3) := by decide +kernel
theorem dL_law_332 : decode cL_law 332 = .ok (.pop, 1) := by decide +kernel
theorem dL_law_333 : decode cL_law 333 = .ok (.aload_n 2, 1) := by decide +kernel
theorem dL_law_334 : decode cL_law 334 = .ok (.aload_n 0, 1) := by decide +kernel
theorem dL_law_335 : decode cL_law 335 = .ok (.iload_n 3, 1) := by decide +kernel
theorem dL_law_336 : decode cL_law 336 = .ok (.iconst 1, 1) := by decide +kernel
theorem dL_law_337 : decode cL_law 337 = .ok (.iadd, 1) := by decide +kernel
theorem dL_law_338 : decode cL_law 338 = .ok (.iaload, 1) := by decide +kernel
theorem dL_law_339 : decode cL_law 339 = .ok (.aload_n 0, 1) := by decide +kernel
theorem dL_law_340 : decode cL_law 340 = .ok (.iload_n 3, 1) := by decide +kernel
theorem dL_law_341 : decode cL_law 341 = .ok (.iconst 2, 1) := by decide +kernel
theorem dL_law_342 : decode cL_law 342 = .ok (.iadd, 1) := by decide +kernel
theorem dL_law_343 : decode cL_law 343 = .ok (.iaload, 1) := by decide +kernel
theorem dL_law_344 : decode cL_law 344 = .ok (.invokevirtual 36, 3) := by decide +kernel
theorem dL_law_347 : decode cL_law 347 = .ok (.pop, 1) := by decide +kernel
theorem dL_law_348 : decode cL_law 348 = .ok (.goto 869, 3) := by decide +kernel
theorem dL_law_351 : decode cL_law 351 = .ok (.aload_n 1, 1) := by decide +kernel
theorem dL_law_352 : decode cL_law 352 = .ok (.aload_n 0, 1) := by decide +kernel
theorem dL_law_353 : decode cL_law 353 = .ok (.iload_n 3, 1) := by decide +kernel
theorem dL_law_354 : decode cL_law 354 = .ok (.iconst 1, 1) := by decide +kernel
theorem dL_law_355 : decode cL_law 355 = .ok (.iadd, 1) := by decide +kernel
theorem dL_law_356 : decode cL_law 356 = .ok (.iaload, 1) := by decide +kernel
theorem dL_law_357 : decode cL_law 357 = .ok (.aload_n 0, 1) := by decide +kernel
theorem dL_law_358 : decode cL_law 358 = .ok (.iload_n 3, 1) := by decide +kernel
theorem dL_law_359 : decode cL_law 359 = .ok (.iconst 2, 1) := by decide +kernel
theorem dL_law_360 : decode cL_law 360 = .ok (.iadd, 1) := by decide +kernel
theorem dL_law_361 : decode cL_law 361 = .ok (.iaload, 1) := by decide +kernel
theorem dL_law_362 : decode cL_law 362 = .ok (.invokevirtual 37, 3) := by decide +kernel
theorem dL_law_365 : decode cL_law 365 = .ok (.pop, 1) := by decide +kernel
theorem dL_law_366 : decode cL_law 366 = .ok (.aload_n 2, 1) := by decide +kernel
theorem dL_law_367 : decode cL_law 367 = .ok (.aload_n 0, 1) := by decide +kernel
theorem dL_law_368 : decode cL_law 368 = .ok (.iload_n 3, 1) := by decide +kernel
theorem dL_law_369 : decode cL_law 369 = .ok (.iconst 1, 1) := by decide +kernel
theorem dL_law_370 : decode cL_law 370 = .ok (.iadd, 1) := by decide +kernel
theorem dL_law_371 : decode cL_law 371 = .ok (.iaload, 1) := by decide +kernel
theorem dL_law_372 : decode cL_law 372 = .ok (.aload_n 0, 1) := by decide +kernel
theorem dL_law_373 : decode cL_law 373 = .ok (.iload_n 3, 1) := by decide +kernel
theorem dL_law_374 : decode cL_law 374 = .ok (.iconst 2, 1) := by decide +kernel
theorem dL_law_375 : decode cL_law 375 = .ok (.iadd, 1) := by decide +kernel
theorem dL_law_376 : decode cL_law 376 = .ok (.iaload, 1) := by decide +kernel
theorem dL_law_377 : decode cL_law 377 = .ok (.invokevirtual 40, 3) := by decide +kernel
theorem dL_law_380 : decode cL_law 380 = .ok (.pop, 1) := by decide +kernel
theorem dL_law_381 : decode cL_law 381 = .ok (.goto 836, 3) := by decide +kernel
