theorem bw_534 : Cond.classLink RL 7 RX11 ∈ gT := gT_tb 23 (by decide +kernel) (by decide +kernel)
theorem bw_535 : Cond.initialized yX11_init.cls ∈ gT := gT_tb 1 (by decide +kernel) (by decide +kernel)
theorem bw_536 : Cond.methodLink RL 9 yX11_init ∈ gT := gT_tb 25 (by decide +kernel) (by decide +kernel)
theorem bw_537 : Cond.instanceMethod yX11_init ∈ gT := gT_tb 26 (by decide +kernel) (by decide +kernel)
theorem bw_538 : Cond.classLink RL 10 RX12 ∈ gT := gT_tb 1287 (by decide +kernel) (by decide +kernel)
theorem bw_539 : Cond.initialized yX12_init.cls ∈ gT := gT_tb 19 (by decide +kernel) (by decide +kernel)
theorem bw_540 : Cond.methodLink RL 12 yX12_init ∈ gT := gT_tb 1289 (by decide +kernel) (by decide +kernel)
theorem bw_541 : Cond.instanceMethod yX12_init ∈ gT := gT_tb 1290 (by decide +kernel) (by decide +kernel)
theorem bw_542 : Cond.methodLink RL 13 yX11_feed ∈ gT := gT_tb 564 (by decide +kernel) (by decide +kernel)
theorem bw_543 : Cond.instanceMethod yX11_feed ∈ gT := gT_tb 565 (by decide +kernel) (by decide +kernel)
theorem bw_544 : Cond.selects RX11 yX11_feed yX11_feed ∈ gT := gT_tb 566 (by decide +kernel) (by decide +kernel)
theorem bw_545 : Cond.methodLink RL 17 yX12_feed ∈ gT := gT_tb 2065 (by decide +kernel) (by decide +kernel)
theorem bw_546 : Cond.instanceMethod yX12_feed ∈ gT := gT_tb 2066 (by decide +kernel) (by decide +kernel)
theorem bw_547 : Cond.selects RX12 yX12_feed yX12_feed ∈ gT := gT_tb 2067 (by decide +kernel) (by decide +kernel)
theorem bw_548 : Cond.methodLink RL 18 yX11_end ∈ gT := gT_tb 572 (by decide +kernel) (by decide +kernel)
theorem bw_549 : Cond.instanceMethod yX11_end ∈ gT := gT_tb 573 (by decide +kernel) (by decide +kernel)
theorem bw_550 : Cond.selects RX11 yX11_end yX11_end ∈ gT := gT_tb 574 (by decide +kernel) (by decide +kernel)
theorem bw_551 : Cond.methodLink RL 22 yX12_end ∈ gT := gT_tb 2069 (by decide +kernel) (by decide +kernel)
theorem bw_552 : Cond.instanceMethod yX12_end ∈ gT := gT_tb 2070 (by decide +kernel) (by decide +kernel)
theorem bw_553 : Cond.selects RX12 yX12_end yX12_end ∈ gT := gT_tb 2071 (by decide +kernel) (by decide +kernel)
theorem bw_554 : Cond.methodLink RL 23 yX11_code ∈ gT := gT_tb 576 (by decide +kernel) (by decide +kernel)
theorem bw_555 : Cond.instanceMethod yX11_code ∈ gT := gT_tb 577 (by decide +kernel) (by decide +kernel)
theorem bw_556 : Cond.selects RX11 yX11_code yX11_code ∈ gT := gT_tb 578 (by decide +kernel) (by decide +kernel)
theorem bw_557 : Cond.methodLink RL 27 yX12_code ∈ gT := gT_tb 1567 (by decide +kernel) (by decide +kernel)
theorem bw_558 : Cond.instanceMethod yX12_code ∈ gT := gT_tb 1568 (by decide +kernel) (by decide +kernel)
theorem bw_559 : Cond.selects RX12 yX12_code yX12_code ∈ gT := gT_tb 1569 (by decide +kernel) (by decide +kernel)
theorem bw_560 : Cond.methodLink RL 28 yX11_fault ∈ gT := gT_tb 835 (by decide +kernel) (by decide +kernel)
theorem bw_561 : Cond.instanceMethod yX11_fault ∈ gT := gT_tb 836 (by decide +kernel) (by decide +kernel)
theorem bw_562 : Cond.selects RX11 yX11_fault yX11_fault ∈ gT := gT_tb 837 (by decide +kernel) (by decide +kernel)
theorem bw_563 : Cond.methodLink RL 31 yX12_fault ∈ gT := gT_tb 1735 (by decide +kernel) (by decide +kernel)
theorem bw_564 : Cond.instanceMethod yX12_fault ∈ gT := gT_tb 1736 (by decide +kernel) (by decide +kernel)
theorem bw_565 : Cond.selects RX12 yX12_fault yX12_fault ∈ gT := gT_tb 1737 (by decide +kernel) (by decide +kernel)
theorem bw_566 : Cond.methodLink RL 32 yX11_man ∈ gT := gT_tb 839 (by decide +kernel) (by decide +kernel)
theorem bw_567 : Cond.instanceMethod yX11_man ∈ gT := gT_tb 840 (by decide +kernel) (by decide +kernel)
theorem bw_568 : Cond.selects RX11 yX11_man yX11_man ∈ gT := gT_tb 841 (by decide +kernel) (by decide +kernel)
theorem bw_569 : Cond.methodLink RL 36 yX12_man ∈ gT := gT_tb 1739 (by decide +kernel) (by decide +kernel)
theorem bw_570 : Cond.instanceMethod yX12_man ∈ gT := gT_tb 1740 (by decide +kernel) (by decide +kernel)
theorem bw_571 : Cond.selects RX12 yX12_man yX12_man ∈ gT := gT_tb 1741 (by decide +kernel) (by decide +kernel)
theorem bw_572 : Cond.methodLink RL 37 yX11_duel ∈ gT := gT_tb 851 (by decide +kernel) (by decide +kernel)
theorem bw_573 : Cond.instanceMethod yX11_duel ∈ gT := gT_tb 852 (by decide +kernel) (by decide +kernel)
theorem bw_574 : Cond.selects RX11 yX11_duel yX11_duel ∈ gT := gT_tb 853 (by decide +kernel) (by decide +kernel)
theorem bw_575 : Cond.methodLink RL 40 yX12_duel ∈ gT := gT_tb 1758 (by decide +kernel) (by decide +kernel)
theorem bw_576 : Cond.instanceMethod yX12_duel ∈ gT := gT_tb 1759 (by decide +kernel) (by decide +kernel)
theorem bw_577 : Cond.selects RX12 yX12_duel yX12_duel ∈ gT := gT_tb 1760 (by decide +kernel) (by decide +kernel)
theorem bw_578 : Cond.methodLink RL 41 yX11_reason ∈ gT := gT_tb 873 (by decide +kernel) (by decide +kernel)
theorem bw_579 : Cond.instanceMethod yX11_reason ∈ gT := gT_tb 874 (by decide +kernel) (by decide +kernel)
theorem bw_580 : Cond.selects RX11 yX11_reason yX11_reason ∈ gT := gT_tb 875 (by decide +kernel) (by decide +kernel)
theorem bw_581 : Cond.methodLink RL 44 yX12_reason ∈ gT := gT_tb 1773 (by decide +kernel) (by decide +kernel)
theorem bw_582 : Cond.instanceMethod yX12_reason ∈ gT := gT_tb 1774 (by decide +kernel) (by decide +kernel)
theorem bw_583 : Cond.selects RX12 yX12_reason yX12_reason ∈ gT := gT_tb 1775 (by decide +kernel) (by decide +kernel)
theorem bw_584 : Cond.methodLink RL 45 yX11_worth ∈ gT := gT_tb 896 (by decide +kernel) (by decide +kernel)
theorem bw_585 : Cond.instanceMethod yX11_worth ∈ gT := gT_tb 897 (by decide +kernel) (by decide +kernel)
theorem bw_586 : Cond.selects RX11 yX11_worth yX11_worth ∈ gT := gT_tb 898 (by decide +kernel) (by decide +kernel)
theorem bw_587 : Cond.methodLink RL 49 yX12_worth ∈ gT := gT_tb 1785 (by decide +kernel) (by decide +kernel)
theorem bw_588 : Cond.instanceMethod yX12_worth ∈ gT := gT_tb 1786 (by decide +kernel) (by decide +kernel)
theorem bw_589 : Cond.selects RX12 yX12_worth yX12_worth ∈ gT := gT_tb 1787 (by decide +kernel) (by decide +kernel)
theorem bw_590 : Cond.methodLink RL 50 yX11_may ∈ gT := gT_tb 917 (by decide +kernel) (by decide +kernel)
theorem bw_591 : Cond.instanceMethod yX11_may ∈ gT := gT_tb 918 (by decide +kernel) (by decide +kernel)
theorem bw_592 : Cond.selects RX11 yX11_may yX11_may ∈ gT := gT_tb 919 (by decide +kernel) (by decide +kernel)
theorem bw_593 : Cond.methodLink RL 53 yX12_may ∈ gT := gT_tb 1804 (by decide +kernel) (by decide +kernel)
theorem bw_594 : Cond.instanceMethod yX12_may ∈ gT := gT_tb 1805 (by decide +kernel) (by decide +kernel)
theorem bw_595 : Cond.selects RX12 yX12_may yX12_may ∈ gT := gT_tb 1806 (by decide +kernel) (by decide +kernel)
theorem bw_596 : Cond.methodLink RL 54 yX11_next ∈ gT := gT_tb 953 (by decide +kernel) (by decide +kernel)
theorem bw_597 : Cond.instanceMethod yX11_next ∈ gT := gT_tb 954 (by decide +kernel) (by decide +kernel)
theorem bw_598 : Cond.selects RX11 yX11_next yX11_next ∈ gT := gT_tb 955 (by decide +kernel) (by decide +kernel)
theorem bw_599 : Cond.methodLink RL 57 yX12_next ∈ gT := gT_tb 2003 (by decide +kernel) (by decide +kernel)
theorem bw_600 : Cond.instanceMethod yX12_next ∈ gT := gT_tb 2004 (by decide +kernel) (by decide +kernel)
theorem bw_601 : Cond.selects RX12 yX12_next yX12_next ∈ gT := gT_tb 2005 (by decide +kernel) (by decide +kernel)
theorem bw_602 : Cond.methodLink RL 58 yX11_heir ∈ gT := gT_tb 961 (by decide +kernel) (by decide +kernel)
theorem bw_603 : Cond.instanceMethod yX11_heir ∈ gT := gT_tb 962 (by decide +kernel) (by decide +kernel)
theorem bw_604 : Cond.selects RX11 yX11_heir yX11_heir ∈ gT := gT_tb 963 (by decide +kernel) (by decide +kernel)
theorem bw_605 : Cond.methodLink RL 61 yX12_heir ∈ gT := gT_tb 2007 (by decide +kernel) (by decide +kernel)
theorem bw_606 : Cond.instanceMethod yX12_heir ∈ gT := gT_tb 2008 (by decide +kernel) (by decide +kernel)
theorem bw_607 : Cond.selects RX12 yX12_heir yX12_heir ∈ gT := gT_tb 2009 (by decide +kernel) (by decide +kernel)
theorem bw_608 : Cond.methodLink RL 62 yX11_his ∈ gT := gT_tb 969 (by decide +kernel) (by decide +kernel)
theorem bw_609 : Cond.instanceMethod yX11_his ∈ gT := gT_tb 970 (by decide +kernel) (by decide +kernel)
theorem bw_610 : Cond.selects RX11 yX11_his yX11_his ∈ gT := gT_tb 971 (by decide +kernel) (by decide +kernel)
theorem bw_611 : Cond.methodLink RL 65 yX12_his ∈ gT := gT_tb 2011 (by decide +kernel) (by decide +kernel)
theorem bw_612 : Cond.instanceMethod yX12_his ∈ gT := gT_tb 2012 (by decide +kernel) (by decide +kernel)
theorem bw_613 : Cond.selects RX12 yX12_his yX12_his ∈ gT := gT_tb 2013 (by decide +kernel) (by decide +kernel)
theorem bw_614 : Cond.methodLink RL 66 yX11_comes ∈ gT := gT_tb 977 (by decide +kernel) (by decide +kernel)
theorem bw_615 : Cond.instanceMethod yX11_comes ∈ gT := gT_tb 978 (by decide +kernel) (by decide +kernel)
theorem bw_616 : Cond.selects RX11 yX11_comes yX11_comes ∈ gT := gT_tb 979 (by decide +kernel) (by decide +kernel)
theorem bw_617 : Cond.methodLink RL 69 yX12_comes ∈ gT := gT_tb 2016 (by decide +kernel) (by decide +kernel)
theorem bw_618 : Cond.instanceMethod yX12_comes ∈ gT := gT_tb 2017 (by decide +kernel) (by decide +kernel)
theorem bw_619 : Cond.selects RX12 yX12_comes yX12_comes ∈ gT := gT_tb 2018 (by decide +kernel) (by decide +kernel)
theorem bw_620 : Cond.methodLink RL 70 yX11_put ∈ gT := gT_tb 981 (by decide +kernel) (by decide +kernel)
theorem bw_621 : Cond.instanceMethod yX11_put ∈ gT := gT_tb 982 (by decide +kernel) (by decide +kernel)
theorem bw_622 : Cond.selects RX11 yX11_put yX11_put ∈ gT := gT_tb 983 (by decide +kernel) (by decide +kernel)
theorem bw_623 : Cond.methodLink RL 73 yX12_put ∈ gT := gT_tb 1839 (by decide +kernel) (by decide +kernel)
theorem bw_624 : Cond.instanceMethod yX12_put ∈ gT := gT_tb 1840 (by decide +kernel) (by decide +kernel)
theorem bw_625 : Cond.selects RX12 yX12_put yX12_put ∈ gT := gT_tb 1841 (by decide +kernel) (by decide +kernel)
theorem bw_626 : Cond.methodLink RL 74 yX11_rent ∈ gT := gT_tb 1008 (by decide +kernel) (by decide +kernel)
theorem bw_627 : Cond.instanceMethod yX11_rent ∈ gT := gT_tb 1009 (by decide +kernel) (by decide +kernel)
theorem bw_628 : Cond.selects RX11 yX11_rent yX11_rent ∈ gT := gT_tb 1010 (by decide +kernel) (by decide +kernel)
theorem bw_629 : Cond.methodLink RL 77 yX12_rent ∈ gT := gT_tb 1850 (by decide +kernel) (by decide +kernel)
theorem bw_630 : Cond.instanceMethod yX12_rent ∈ gT := gT_tb 1851 (by decide +kernel) (by decide +kernel)
theorem bw_631 : Cond.selects RX12 yX12_rent yX12_rent ∈ gT := gT_tb 1852 (by decide +kernel) (by decide +kernel)
theorem bw_632 : Cond.methodLink RL 78 yX11_strike ∈ gT := gT_tb 1013 (by decide +kernel) (by decide +kernel)
theorem bw_633 : Cond.instanceMethod yX11_strike ∈ gT := gT_tb 1014 (by decide +kernel) (by decide +kernel)
theorem bw_634 : Cond.selects RX11 yX11_strike yX11_strike ∈ gT := gT_tb 1015 (by decide +kernel) (by decide +kernel)
theorem bw_635 : Cond.methodLink RL 82 yX12_strike ∈ gT := gT_tb 1854 (by decide +kernel) (by decide +kernel)
theorem bw_636 : Cond.instanceMethod yX12_strike ∈ gT := gT_tb 1855 (by decide +kernel) (by decide +kernel)
theorem bw_637 : Cond.selects RX12 yX12_strike yX12_strike ∈ gT := gT_tb 1856 (by decide +kernel) (by decide +kernel)
theorem bw_638 : Cond.methodLink RL 83 yX11_insult ∈ gT := gT_tb 1017 (by decide +kernel) (by decide +kernel)
theorem bw_639 : Cond.instanceMethod yX11_insult ∈ gT := gT_tb 1018 (by decide +kernel) (by decide +kernel)
theorem bw_640 : Cond.selects RX11 yX11_insult yX11_insult ∈ gT := gT_tb 1019 (by decide +kernel) (by decide +kernel)
theorem bw_641 : Cond.methodLink RL 86 yX12_insult ∈ gT := gT_tb 1858 (by decide +kernel) (by decide +kernel)
theorem bw_642 : Cond.instanceMethod yX12_insult ∈ gT := gT_tb 1859 (by decide +kernel) (by decide +kernel)
theorem bw_643 : Cond.selects RX12 yX12_insult yX12_insult ∈ gT := gT_tb 1860 (by decide +kernel) (by decide +kernel)
theorem bw_644 : Cond.methodLink RL 87 yX11_days ∈ gT := gT_tb 1027 (by decide +kernel) (by decide +kernel)
theorem bw_645 : Cond.instanceMethod yX11_days ∈ gT := gT_tb 1028 (by decide +kernel) (by decide +kernel)
theorem bw_646 : Cond.selects RX11 yX11_days yX11_days ∈ gT := gT_tb 1029 (by decide +kernel) (by decide +kernel)
theorem bw_647 : Cond.methodLink RL 90 yX12_days ∈ gT := gT_tb 1870 (by decide +kernel) (by decide +kernel)
theorem bw_648 : Cond.instanceMethod yX12_days ∈ gT := gT_tb 1871 (by decide +kernel) (by decide +kernel)
theorem bw_649 : Cond.selects RX12 yX12_days yX12_days ∈ gT := gT_tb 1872 (by decide +kernel) (by decide +kernel)
theorem bw_650 : Cond.methodLink RL 91 yX11_undo ∈ gT := gT_tb 1045 (by decide +kernel) (by decide +kernel)
theorem bw_651 : Cond.instanceMethod yX11_undo ∈ gT := gT_tb 1046 (by decide +kernel) (by decide +kernel)
theorem bw_652 : Cond.selects RX11 yX11_undo yX11_undo ∈ gT := gT_tb 1047 (by decide +kernel) (by decide +kernel)
theorem bw_653 : Cond.methodLink RL 95 yX12_undo ∈ gT := gT_tb 1890 (by decide +kernel) (by decide +kernel)
theorem bw_654 : Cond.instanceMethod yX12_undo ∈ gT := gT_tb 1891 (by decide +kernel) (by decide +kernel)
theorem bw_655 : Cond.selects RX12 yX12_undo yX12_undo ∈ gT := gT_tb 1892 (by decide +kernel) (by decide +kernel)
theorem bw_656 : Cond.methodLink RL 96 yX11_redo ∈ gT := gT_tb 1049 (by decide +kernel) (by decide +kernel)
theorem bw_657 : Cond.instanceMethod yX11_redo ∈ gT := gT_tb 1050 (by decide +kernel) (by decide +kernel)
theorem bw_658 : Cond.selects RX11 yX11_redo yX11_redo ∈ gT := gT_tb 1051 (by decide +kernel) (by decide +kernel)
theorem bw_659 : Cond.methodLink RL 99 yX12_redo ∈ gT := gT_tb 1898 (by decide +kernel) (by decide +kernel)
theorem bw_660 : Cond.instanceMethod yX12_redo ∈ gT := gT_tb 1899 (by decide +kernel) (by decide +kernel)
theorem bw_661 : Cond.selects RX12 yX12_redo yX12_redo ∈ gT := gT_tb 1900 (by decide +kernel) (by decide +kernel)
theorem bw_662 : Cond.methodLink RL 100 yX11_life ∈ gT := gT_tb 1053 (by decide +kernel) (by decide +kernel)
theorem bw_663 : Cond.instanceMethod yX11_life ∈ gT := gT_tb 1054 (by decide +kernel) (by decide +kernel)
theorem bw_664 : Cond.selects RX11 yX11_life yX11_life ∈ gT := gT_tb 1055 (by decide +kernel) (by decide +kernel)
theorem bw_665 : Cond.methodLink RL 103 yX12_life ∈ gT := gT_tb 1906 (by decide +kernel) (by decide +kernel)
theorem bw_666 : Cond.instanceMethod yX12_life ∈ gT := gT_tb 1907 (by decide +kernel) (by decide +kernel)
theorem bw_667 : Cond.selects RX12 yX12_life yX12_life ∈ gT := gT_tb 1908 (by decide +kernel) (by decide +kernel)
theorem bw_668 : Cond.methodLink RL 104 yX11_late ∈ gT := gT_tb 1129 (by decide +kernel) (by decide +kernel)
theorem bw_669 : Cond.instanceMethod yX11_late ∈ gT := gT_tb 1130 (by decide +kernel) (by decide +kernel)
theorem bw_670 : Cond.selects RX11 yX11_late yX11_late ∈ gT := gT_tb 1131 (by decide +kernel) (by decide +kernel)
theorem bw_671 : Cond.methodLink RL 107 yX12_late ∈ gT := gT_tb 1946 (by decide +kernel) (by decide +kernel)
theorem bw_672 : Cond.instanceMethod yX12_late ∈ gT := gT_tb 1947 (by decide +kernel) (by decide +kernel)
theorem bw_673 : Cond.selects RX12 yX12_late yX12_late ∈ gT := gT_tb 1948 (by decide +kernel) (by decide +kernel)
theorem bw_674 : Cond.methodLink RL 108 yX11_last ∈ gT := gT_tb 1138 (by decide +kernel) (by decide +kernel)
theorem bw_675 : Cond.instanceMethod yX11_last ∈ gT := gT_tb 1139 (by decide +kernel) (by decide +kernel)
theorem bw_676 : Cond.selects RX11 yX11_last yX11_last ∈ gT := gT_tb 1140 (by decide +kernel) (by decide +kernel)
theorem bw_677 : Cond.methodLink RL 111 yX12_last ∈ gT := gT_tb 1950 (by decide +kernel) (by decide +kernel)
theorem bw_678 : Cond.instanceMethod yX12_last ∈ gT := gT_tb 1951 (by decide +kernel) (by decide +kernel)
theorem bw_679 : Cond.selects RX12 yX12_last yX12_last ∈ gT := gT_tb 1952 (by decide +kernel) (by decide +kernel)
theorem bw_680 : Cond.methodLink RL 112 yX11_shun ∈ gT := gT_tb 1151 (by decide +kernel) (by decide +kernel)
theorem bw_681 : Cond.instanceMethod yX11_shun ∈ gT := gT_tb 1152 (by decide +kernel) (by decide +kernel)
theorem bw_682 : Cond.selects RX11 yX11_shun yX11_shun ∈ gT := gT_tb 1153 (by decide +kernel) (by decide +kernel)
theorem bw_683 : Cond.methodLink RL 115 yX12_shun ∈ gT := gT_tb 1958 (by decide +kernel) (by decide +kernel)
theorem bw_684 : Cond.instanceMethod yX12_shun ∈ gT := gT_tb 1959 (by decide +kernel) (by decide +kernel)
theorem bw_685 : Cond.selects RX12 yX12_shun yX12_shun ∈ gT := gT_tb 1960 (by decide +kernel) (by decide +kernel)
theorem bw_686 : Cond.methodLink RL 116 yX11_hire ∈ gT := gT_tb 1157 (by decide +kernel) (by decide +kernel)
theorem bw_687 : Cond.instanceMethod yX11_hire ∈ gT := gT_tb 1158 (by decide +kernel) (by decide +kernel)
theorem bw_688 : Cond.selects RX11 yX11_hire yX11_hire ∈ gT := gT_tb 1159 (by decide +kernel) (by decide +kernel)
theorem bw_689 : Cond.methodLink RL 119 yX12_hire ∈ gT := gT_tb 1962 (by decide +kernel) (by decide +kernel)
theorem bw_690 : Cond.instanceMethod yX12_hire ∈ gT := gT_tb 1963 (by decide +kernel) (by decide +kernel)
theorem bw_691 : Cond.selects RX12 yX12_hire yX12_hire ∈ gT := gT_tb 1964 (by decide +kernel) (by decide +kernel)
theorem bw_692 : Cond.methodLink RL 120 yX11_clash ∈ gT := gT_tb 1170 (by decide +kernel) (by decide +kernel)
theorem bw_693 : Cond.instanceMethod yX11_clash ∈ gT := gT_tb 1171 (by decide +kernel) (by decide +kernel)
theorem bw_694 : Cond.selects RX11 yX11_clash yX11_clash ∈ gT := gT_tb 1172 (by decide +kernel) (by decide +kernel)
theorem bw_695 : Cond.methodLink RL 123 yX12_clash ∈ gT := gT_tb 1974 (by decide +kernel) (by decide +kernel)
theorem bw_696 : Cond.instanceMethod yX12_clash ∈ gT := gT_tb 1975 (by decide +kernel) (by decide +kernel)
theorem bw_697 : Cond.selects RX12 yX12_clash yX12_clash ∈ gT := gT_tb 1976 (by decide +kernel) (by decide +kernel)
theorem bw_698 : Cond.methodLink RL 124 yX11_part ∈ gT := gT_tb 1182 (by decide +kernel) (by decide +kernel)
theorem bw_699 : Cond.instanceMethod yX11_part ∈ gT := gT_tb 1183 (by decide +kernel) (by decide +kernel)
theorem bw_700 : Cond.selects RX11 yX11_part yX11_part ∈ gT := gT_tb 1184 (by decide +kernel) (by decide +kernel)
theorem bw_701 : Cond.methodLink RL 127 yX12_part ∈ gT := gT_tb 1982 (by decide +kernel) (by decide +kernel)
theorem bw_702 : Cond.instanceMethod yX12_part ∈ gT := gT_tb 1983 (by decide +kernel) (by decide +kernel)
theorem bw_703 : Cond.selects RX12 yX12_part yX12_part ∈ gT := gT_tb 1984 (by decide +kernel) (by decide +kernel)
theorem bw_704 : Cond.methodLink RL 128 yX11_lies ∈ gT := gT_tb 1230 (by decide +kernel) (by decide +kernel)
theorem bw_705 : Cond.instanceMethod yX11_lies ∈ gT := gT_tb 1231 (by decide +kernel) (by decide +kernel)
theorem bw_706 : Cond.selects RX11 yX11_lies yX11_lies ∈ gT := gT_tb 1232 (by decide +kernel) (by decide +kernel)
theorem bw_707 : Cond.methodLink RL 131 yX12_lies ∈ gT := gT_tb 1902 (by decide +kernel) (by decide +kernel)
theorem bw_708 : Cond.instanceMethod yX12_lies ∈ gT := gT_tb 1903 (by decide +kernel) (by decide +kernel)
theorem bw_709 : Cond.selects RX12 yX12_lies yX12_lies ∈ gT := gT_tb 1904 (by decide +kernel) (by decide +kernel)
theorem bw_710 : Cond.methodLink RL 132 yX11_log ∈ gT := gT_tb 1234 (by decide +kernel) (by decide +kernel)
theorem bw_711 : Cond.instanceMethod yX11_log ∈ gT := gT_tb 1235 (by decide +kernel) (by decide +kernel)
theorem bw_712 : Cond.selects RX11 yX11_log yX11_log ∈ gT := gT_tb 1236 (by decide +kernel) (by decide +kernel)
theorem bw_713 : Cond.methodLink RL 135 yX12_log ∈ gT := gT_tb 2020 (by decide +kernel) (by decide +kernel)
theorem bw_714 : Cond.instanceMethod yX12_log ∈ gT := gT_tb 2021 (by decide +kernel) (by decide +kernel)
theorem bw_715 : Cond.selects RX12 yX12_log yX12_log ∈ gT := gT_tb 2022 (by decide +kernel) (by decide +kernel)
theorem bw_716 : Cond.methodLink RL 136 yX11_began ∈ gT := gT_tb 1242 (by decide +kernel) (by decide +kernel)
theorem bw_717 : Cond.instanceMethod yX11_began ∈ gT := gT_tb 1243 (by decide +kernel) (by decide +kernel)
theorem bw_718 : Cond.selects RX11 yX11_began yX11_began ∈ gT := gT_tb 1244 (by decide +kernel) (by decide +kernel)
theorem bw_719 : Cond.methodLink RL 139 yX12_began ∈ gT := gT_tb 2024 (by decide +kernel) (by decide +kernel)
theorem bw_720 : Cond.instanceMethod yX12_began ∈ gT := gT_tb 2025 (by decide +kernel) (by decide +kernel)
theorem bw_721 : Cond.selects RX12 yX12_began yX12_began ∈ gT := gT_tb 2026 (by decide +kernel) (by decide +kernel)
theorem bw_722 : Cond.methodLink RL 140 yX11_sight ∈ gT := gT_tb 1246 (by decide +kernel) (by decide +kernel)
theorem bw_723 : Cond.instanceMethod yX11_sight ∈ gT := gT_tb 1247 (by decide +kernel) (by decide +kernel)
theorem bw_724 : Cond.selects RX11 yX11_sight yX11_sight ∈ gT := gT_tb 1248 (by decide +kernel) (by decide +kernel)
theorem bw_725 : Cond.methodLink RL 143 yX12_sight ∈ gT := gT_tb 2028 (by decide +kernel) (by decide +kernel)
theorem bw_726 : Cond.instanceMethod yX12_sight ∈ gT := gT_tb 2029 (by decide +kernel) (by decide +kernel)
theorem bw_727 : Cond.selects RX12 yX12_sight yX12_sight ∈ gT := gT_tb 2030 (by decide +kernel) (by decide +kernel)
theorem bw_728 : Cond.methodLink RL 144 yX11_untell ∈ gT := gT_tb 1254 (by decide +kernel) (by decide +kernel)
theorem bw_729 : Cond.instanceMethod yX11_untell ∈ gT := gT_tb 1255 (by decide +kernel) (by decide +kernel)
theorem bw_730 : Cond.selects RX11 yX11_untell yX11_untell ∈ gT := gT_tb 1256 (by decide +kernel) (by decide +kernel)
theorem bw_731 : Cond.methodLink RL 147 yX12_untell ∈ gT := gT_tb 2032 (by decide +kernel) (by decide +kernel)
theorem bw_732 : Cond.instanceMethod yX12_untell ∈ gT := gT_tb 2033 (by decide +kernel) (by decide +kernel)
theorem bw_733 : Cond.selects RX12 yX12_untell yX12_untell ∈ gT := gT_tb 2034 (by decide +kernel) (by decide +kernel)
theorem bw_734 : Cond.methodLink RL 148 yX11_later ∈ gT := gT_tb 1262 (by decide +kernel) (by decide +kernel)
theorem bw_735 : Cond.instanceMethod yX11_later ∈ gT := gT_tb 1263 (by decide +kernel) (by decide +kernel)
theorem bw_736 : Cond.selects RX11 yX11_later yX11_later ∈ gT := gT_tb 1264 (by decide +kernel) (by decide +kernel)
theorem bw_737 : Cond.methodLink RL 151 yX12_later ∈ gT := gT_tb 2036 (by decide +kernel) (by decide +kernel)
theorem bw_738 : Cond.instanceMethod yX12_later ∈ gT := gT_tb 2037 (by decide +kernel) (by decide +kernel)
theorem bw_739 : Cond.selects RX12 yX12_later yX12_later ∈ gT := gT_tb 2038 (by decide +kernel) (by decide +kernel)
theorem bw_740 : Cond.methodLink RL 152 yX11_falses ∈ gT := gT_tb 1267 (by decide +kernel) (by decide +kernel)
theorem bw_741 : Cond.instanceMethod yX11_falses ∈ gT := gT_tb 1268 (by decide +kernel) (by decide +kernel)
theorem bw_742 : Cond.selects RX11 yX11_falses yX11_falses ∈ gT := gT_tb 1269 (by decide +kernel) (by decide +kernel)
theorem bw_743 : Cond.methodLink RL 155 yX12_falses ∈ gT := gT_tb 2041 (by decide +kernel) (by decide +kernel)
theorem bw_744 : Cond.instanceMethod yX12_falses ∈ gT := gT_tb 2042 (by decide +kernel) (by decide +kernel)
theorem bw_745 : Cond.selects RX12 yX12_falses yX12_falses ∈ gT := gT_tb 2043 (by decide +kernel) (by decide +kernel)
theorem bw_746 : Cond.methodLink RL 156 yX11_image ∈ gT := gT_tb 1275 (by decide +kernel) (by decide +kernel)
theorem bw_747 : Cond.instanceMethod yX11_image ∈ gT := gT_tb 1276 (by decide +kernel) (by decide +kernel)
theorem bw_748 : Cond.selects RX11 yX11_image yX11_image ∈ gT := gT_tb 1277 (by decide +kernel) (by decide +kernel)
theorem bw_749 : Cond.methodLink RL 159 yX12_image ∈ gT := gT_tb 2049 (by decide +kernel) (by decide +kernel)
theorem bw_750 : Cond.instanceMethod yX12_image ∈ gT := gT_tb 2050 (by decide +kernel) (by decide +kernel)
theorem bw_751 : Cond.selects RX12 yX12_image yX12_image ∈ gT := gT_tb 2051 (by decide +kernel) (by decide +kernel)
theorem bw_752 : Cond.methodLink RL 160 yX11_back ∈ gT := gT_tb 1279 (by decide +kernel) (by decide +kernel)
theorem bw_753 : Cond.instanceMethod yX11_back ∈ gT := gT_tb 1280 (by decide +kernel) (by decide +kernel)
theorem bw_754 : Cond.selects RX11 yX11_back yX11_back ∈ gT := gT_tb 1281 (by decide +kernel) (by decide +kernel)
theorem bw_755 : Cond.methodLink RL 163 yX12_back ∈ gT := gT_tb 2053 (by decide +kernel) (by decide +kernel)
theorem bw_756 : Cond.instanceMethod yX12_back ∈ gT := gT_tb 2054 (by decide +kernel) (by decide +kernel)
theorem bw_757 : Cond.selects RX12 yX12_back yX12_back ∈ gT := gT_tb 2055 (by decide +kernel) (by decide +kernel)
theorem bw_758 : Cond.methodLink RL 164 yX11_about ∈ gT := gT_tb 1283 (by decide +kernel) (by decide +kernel)
theorem bw_759 : Cond.instanceMethod yX11_about ∈ gT := gT_tb 1284 (by decide +kernel) (by decide +kernel)
theorem bw_760 : Cond.selects RX11 yX11_about yX11_about ∈ gT := gT_tb 1285 (by decide +kernel) (by decide +kernel)
theorem bw_761 : Cond.methodLink RL 167 yX12_about ∈ gT := gT_tb 2057 (by decide +kernel) (by decide +kernel)
theorem bw_762 : Cond.instanceMethod yX12_about ∈ gT := gT_tb 2058 (by decide +kernel) (by decide +kernel)
theorem bw_763 : Cond.selects RX12 yX12_about yX12_about ∈ gT := gT_tb 2059 (by decide +kernel) (by decide +kernel)
theorem dL_law_0 : decode cL_law 0 = .ok (.new 7, 3) := by decide +kernel
theorem dL_law_3 : decode cL_law 3 = .ok (.dup, 1) := by decide +kernel
theorem dL_law_4 : decode cL_law 4 = .ok (.invokespecial 9, 3) := by decide +kernel
theorem dL_law_7 : decode cL_law 7 = .ok (.astore_n 1, 1) := by decide +kernel
theorem dL_law_8 : decode cL_law 8 = .ok (.new 10, 3) := by decide +kernel
theorem dL_law_11 : decode cL_law 11 = .ok (.dup, 1) := by decide +kernel
theorem dL_law_12 : decode cL_law 12 = .ok (.invokespecial 12, 3) := by decide +kernel
theorem dL_law_15 : decode cL_law 15 = .ok (.astore_n 2, 1) := by decide +kernel
theorem dL_law_16 : decode cL_law 16 = .ok (.iconst 0, 1) := by decide +kernel
theorem dL_law_17 : decode cL_law 17 = .ok (.istore_n 3, 1) := by decide +kernel
theorem dL_law_18 : decode cL_law 18 = .ok (.iload_n 3, 1) := by decide +kernel
theorem dL_law_19 : decode cL_law 19 = .ok (.aload_n 0, 1) := by decide +kernel
theorem dL_law_20 : decode cL_law 20 = .ok (.arraylength, 1) := by decide +kernel
theorem dL_law_21 : decode cL_law 21 = .ok (.bipush 6, 2) := by decide +kernel
theorem dL_law_23 : decode cL_law 23 = .ok (.isub, 1) := by decide +kernel
theorem dL_law_24 : decode cL_law 24 = .ok (.if_icmp .gt 1199, 3) := by decide +kernel
theorem dL_law_27 : decode cL_law 27 = .ok (.aload_n 0, 1) := by decide +kernel
theorem dL_law_28 : decode cL_law 28 = .ok (.iload_n 3, 1) := by decide +kernel
theorem dL_law_29 : decode cL_law 29 = .ok (.iaload, 1) := by decide +kernel
theorem dL_law_30 : decode cL_law 30 = .ok (.bipush 63, 2) := by decide +kernel
theorem dL_law_32 : decode cL_law 32 = .ok (.iand, 1) := by decide +kernel
theorem dL_law_33 : decode cL_law 33 = .ok (.tableswitch 1184 0 36 #[163, 226, 249, 262, 285, 318, 351, 384, 427, 460, 483, 506, 529, 562, 605, 638, 661, 694, 717, 730, 743, 766, 799, 832, 855, 888, 911, 934, 957, 990, 1013, 1046, 1069, 1092, 1115, 1138, 1161], 163) := by decide +kernel
theorem dL_law_196 : decode cL_law 196 = .ok (.aload_n 1, 1) := by decide +kernel
theorem dL_law_197 : decode cL_law 197 = .ok (.aload_n 0, 1) := by decide +kernel
theorem dL_law_198 : decode cL_law 198 = .ok (.iload_n 3, 1) := by decide +kernel
theorem dL_law_199 : decode cL_law 199 = .ok (.iconst 1, 1) := by decide +kernel
theorem dL_law_200 : decode cL_law 200 = .ok (.iadd, 1) := by decide +kernel
theorem dL_law_201 : decode cL_law 201 = .ok (.iaload, 1) := by decide +kernel
theorem dL_law_202 : decode cL_law 202 = .ok (.aload_n 0, 1) := by decide +kernel
theorem dL_law_203 : decode cL_law 203 = .ok (.iload_n 3, 1) := by decide +kernel
theorem dL_law_204 : decode cL_law 204 = .ok (.iconst 2, 1) := by decide +kernel
theorem dL_law_205 : decode cL_law 205 = .ok (.iadd, 1) := by decide +kernel
theorem dL_law_206 : decode cL_law 206 = .ok (.iaload, 1) := by decide +kernel
theorem dL_law_207 : decode cL_law 207 = .ok (.aload_n 0, 1) := by decide +kernel
theorem dL_law_208 : decode cL_law 208 = .ok (.iload_n 3, 1) := by decide +kernel
theorem dL_law_209 : decode cL_law 209 = .ok (.iconst 3, 1) := by decide +kernel
theorem dL_law_210 : decode cL_law 210 = .ok (.iadd, 1) := by decide +kernel
theorem dL_law_211 : decode cL_law 211 = .ok (.iaload, 1) := by decide +kernel
theorem dL_law_212 : decode cL_law 212 = .ok (.aload_n 0, 1) := by decide +kernel
theorem dL_law_213 : decode cL_law 213 = .ok (.iload_n 3, 1) := by decide +kernel
theorem dL_law_214 : decode cL_law 214 = .ok (.iconst 4, 1) := by decide +kernel
theorem dL_law_215 : decode cL_law 215 = .ok (.iadd, 1) := by decide +kernel
theorem dL_law_216 : decode cL_law 216 = .ok (.iaload, 1) := by decide +kernel
theorem dL_law_217 : decode cL_law 217 = .ok (.aload_n 0, 1) := by decide +kernel
theorem dL_law_218 : decode cL_law 218 = .ok (.iload_n 3, 1) := by decide +kernel
theorem dL_law_219 : decode cL_law 219 = .ok (.iconst 5, 1) := by decide +kernel
theorem dL_law_220 : decode cL_law 220 = .ok (.iadd, 1) := by decide +kernel
theorem dL_law_221 : decode cL_law 221 = .ok (.iaload, 1) := by decide +kernel
theorem dL_law_222 : decode cL_law 222 = .ok (.invokevirtual 13, 3) := by decide +kernel
theorem dL_law_225 : decode cL_law 225 = .ok (.aload_n 2, 1) := by decide +kernel
theorem dL_law_226 : decode cL_law 226 = .ok (.aload_n 0, 1) := by decide +kernel
theorem dL_law_227 : decode cL_law 227 = .ok (.iload_n 3, 1) := by decide +kernel
theorem dL_law_228 : decode cL_law 228 = .ok (.iconst 1, 1) := by decide +kernel
theorem dL_law_229 : decode cL_law 229 = .ok (.iadd, 1) := by decide +kernel
theorem dL_law_230 : decode cL_law 230 = .ok (.iaload, 1) := by decide +kernel
theorem dL_law_231 : decode cL_law 231 = .ok (.aload_n 0, 1) := by decide +kernel
theorem dL_law_232 : decode cL_law 232 = .ok (.iload_n 3, 1) := by decide +kernel
theorem dL_law_233 : decode cL_law 233 = .ok (.iconst 2, 1) := by decide +kernel
theorem dL_law_234 : decode cL_law 234 = .ok (.iadd, 1) := by decide +kernel
theorem dL_law_235 : decode cL_law 235 = .ok (.iaload, 1) := by decide +kernel
theorem dL_law_236 : decode cL_law 236 = .ok (.aload_n 0, 1) := by decide +kernel
theorem dL_law_237 : decode cL_law 237 = .ok (.iload_n 3, 1) := by decide +kernel
theorem dL_law_238 : decode cL_law 238 = .ok (.iconst 3, 1) := by decide +kernel
theorem dL_law_239 : decode cL_law 239 = .ok (.iadd, 1) := by decide +kernel
theorem dL_law_240 : decode cL_law 240 = .ok (.iaload, 1) := by decide +kernel
theorem dL_law_241 : decode cL_law 241 = .ok (.aload_n 0, 1) := by decide +kernel
theorem dL_law_242 : decode cL_law 242 = .ok (.iload_n 3, 1) := by decide +kernel
theorem dL_law_243 : decode cL_law 243 = .ok (.iconst 4, 1) := by decide +kernel
theorem dL_law_244 : decode cL_law 244 = .ok (.iadd, 1) := by decide +kernel
theorem dL_law_245 : decode cL_law 245 = .ok (.iaload, 1) := by decide +kernel
theorem dL_law_246 : decode cL_law 246 = .ok (.aload_n 0, 1) := by decide +kernel
theorem dL_law_247 : decode cL_law 247 = .ok (.iload_n 3, 1) := by decide +kernel
theorem dL_law_248 : decode cL_law 248 = .ok (.iconst 5, 1) := by decide +kernel
theorem dL_law_249 : decode cL_law 249 = .ok (.iadd, 1) := by decide +kernel
theorem dL_law_250 : decode cL_law 250 = .ok (.iaload, 1) := by decide +kernel
theorem dL_law_251 : decode cL_law 251 = .ok (.invokevirtual 17, 3) := by decide +kernel
theorem dL_law_254 : decode cL_law 254 = .ok (.if_icmp .eq 963, 3) := by decide +kernel
theorem dL_law_259 : decode cL_law 259 = .ok (.aload_n 1, 1) := by decide +kernel
theorem dL_law_260 : decode cL_law 260 = .ok (.aload_n 0, 1) := by decide +kernel
theorem dL_law_261 : decode cL_law 261 = .ok (.iload_n 3, 1) := by decide +kernel
theorem dL_law_262 : decode cL_law 262 = .ok (.iconst 1, 1) := by decide +kernel
theorem dL_law_263 : decode cL_law 263 = .ok (.iadd, 1) := by decide +kernel
theorem dL_law_264 : decode cL_law 264 = .ok (.iaload, 1) := by decide +kernel
theorem dL_law_265 : decode cL_law 265 = .ok (.invokevirtual 18, 3) := by decide +kernel
theorem dL_law_268 : decode cL_law 268 = .ok (.aload_n 2, 1) := by decide +kernel
theorem dL_law_269 : decode cL_law 269 = .ok (.aload_n 0, 1) := by decide +kernel
theorem dL_law_270 : decode cL_law 270 = .ok (.iload_n 3, 1) := by decide +kernel
theorem dL_law_271 : decode cL_law 271 = .ok (.iconst 1, 1) := by decide +kernel
theorem dL_law_272 : decode cL_law 272 = .ok (.iadd, 1) := by decide +kernel
theorem dL_law_273 : decode cL_law 273 = .ok (.iaload, 1) := by decide +kernel
theorem dL_law_274 : decode cL_law 274 = .ok (.invokevirtual 22, 3) := by decide +kernel
theorem dL_law_277 : decode cL_law 277 = .ok (.if_icmp .eq 940, 3) := by decide +kernel
theorem dL_law_282 : decode cL_law 282 = .ok (.aload_n 1, 1) := by decide +kernel
theorem dL_law_283 : decode cL_law 283 = .ok (.invokevirtual 23, 3) := by decide +kernel
theorem dL_law_286 : decode cL_law 286 = .ok (.aload_n 2, 1) := by decide +kernel
theorem dL_law_287 : decode cL_law 287 = .ok (.invokevirtual 27, 3) := by decide +kernel
theorem dL_law_290 : decode cL_law 290 = .ok (.if_icmp .eq 927, 3) := by decide +kernel
theorem dL_law_295 : decode cL_law 295 = .ok (.aload_n 1, 1) := by decide +kernel
theorem dL_law_296 : decode cL_law 296 = .ok (.aload_n 0, 1) := by decide +kernel
theorem dL_law_297 : decode cL_law 297 = .ok (.iload_n 3, 1) := by decide +kernel
theorem dL_law_298 : decode cL_law 298 = .ok (.iconst 1, 1) := by decide +kernel
theorem dL_law_299 : decode cL_law 299 = .ok (.iadd, 1) := by decide +kernel
theorem dL_law_300 : decode cL_law 300 = .ok (.iaload, 1) := by decide +kernel
theorem dL_law_301 : decode cL_law 301 = .ok (.invokevirtual 28, 3) := by decide +kernel
theorem dL_law_304 : decode cL_law 304 = .ok (.aload_n 2, 1) := by decide +kernel
theorem dL_law_305 : decode cL_law 305 = .ok (.aload_n 0, 1) := by decide +kernel
theorem dL_law_306 : decode cL_law 306 = .ok (.iload_n 3, 1) := by decide +kernel
theorem dL_law_307 : decode cL_law 307 = .ok (.iconst 1, 1) := by decide +kernel
theorem dL_law_308 : decode cL_law 308 = .ok (.iadd, 1) := by decide +kernel
theorem dL_law_309 : decode cL_law 309 = .ok (.iaload, 1) := by decide +kernel
theorem dL_law_310 : decode cL_law 310 = .ok (.invokevirtual 31, 3) := by decide +kernel
theorem dL_law_313 : decode cL_law 313 = .ok (.if_icmp .eq 904, 3) := by decide +kernel
theorem dL_law_318 : decode cL_law 318 = .ok (.aload_n 1, 1) := by decide +kernel
theorem dL_law_319 : decode cL_law 319 = .ok (.aload_n 0, 1) := by decide +kernel
theorem dL_law_320 : decode cL_law 320 = .ok (.iload_n 3, 1) := by decide +kernel
theorem dL_law_321 : decode cL_law 321 = .ok (.iconst 1, 1) := by decide +kernel
theorem dL_law_322 : decode cL_law 322 = .ok (.iadd, 1) := by decide +kernel
theorem dL_law_323 : decode cL_law 323 = .ok (.iaload, 1) := by decide +kernel
theorem dL_law_324 : decode cL_law 324 = .ok (.aload_n 0, 1) := by decide +kernel
theorem dL_law_325 : decode cL_law 325 = .ok (.iload_n 3, 1) := by decide +kernel
theorem dL_law_326 : decode cL_law 326 = .ok (.iconst 2, 1) := by decide +kernel
theorem dL_law_327 : decode cL_law 327 = .ok (.iadd, 1) := by decide +kernel
theorem dL_law_328 : decode cL_law 328 = .ok (.iaload, 1) := by decide +kernel
theorem dL_law_329 : decode cL_law 329 = .ok (.invokevirtual 32, 3) := by decide +kernel
theorem dL_law_332 : decode cL_law 332 = .ok (.aload_n 2, 1) := by decide +kernel
theorem dL_law_333 : decode cL_law 333 = .ok (.aload_n 0, 1) := by decide +kernel
theorem dL_law_334 : decode cL_law 334 = .ok (.iload_n 3, 1) := by decide +kernel
theorem dL_law_335 : decode cL_law 335 = .ok (.iconst 1, 1) := by decide +kernel
theorem dL_law_336 : decode cL_law 336 = .ok (.iadd, 1) := by decide +kernel
theorem dL_law_337 : decode cL_law 337 = .ok (.iaload, 1) := by decide +kernel
theorem dL_law_338 : decode cL_law 338 = .ok (.aload_n 0, 1) := by decide +kernel
theorem dL_law_339 : decode cL_law 339 = .ok (.iload_n 3, 1) := by decide +kernel
theorem dL_law_340 : decode cL_law 340 = .ok (.iconst 2, 1) := by decide +kernel
theorem dL_law_341 : decode cL_law 341 = .ok (.iadd, 1) := by decide +kernel
theorem dL_law_342 : decode cL_law 342 = .ok (.iaload, 1) := by decide +kernel
theorem dL_law_343 : decode cL_law 343 = .ok (.invokevirtual 36, 3) := by decide +kernel
theorem dL_law_346 : decode cL_law 346 = .ok (.if_icmp .eq 871, 3) := by decide +kernel
theorem dL_law_351 : decode cL_law 351 = .ok (.aload_n 1, 1) := by decide +kernel
theorem dL_law_352 : decode cL_law 352 = .ok (.aload_n 0, 1) := by decide +kernel
theorem dL_law_353 : decode cL_law 353 = .ok (.iload_n 3, 1) := by decide +kernel
theorem dL_law_354 : decode cL_law 354 = .ok (.iconst 1, 1) := by decide +kernel
theorem dL_law_355 : decode cL_law 355 = .ok (.iadd, 1) := by decide +kernel
theorem dL_law_356 : decode cL_law 356 = .ok (.iaload, 1) := by decide +kernel
theorem dL_law_357 : decode cL_law 357 = .ok (.aload_n 0, 1) := by decide +kernel
theorem dL_law_358 : decode cL_law 358 = .ok (.iload_n 3, 1) := by decide +kernel
theorem dL_law_359 : decode cL_law 359 = .ok (.iconst 2, 1) := by decide +kernel
theorem dL_law_360 : decode cL_law 360 = .ok (.iadd, 1) := by decide +kernel
theorem dL_law_361 : decode cL_law 361 = .ok (.iaload, 1) := by decide +kernel
theorem dL_law_362 : decode cL_law 362 = .ok (.invokevirtual 37, 3) := by decide +kernel
theorem dL_law_365 : decode cL_law 365 = .ok (.aload_n 2, 1) := by decide +kernel
theorem dL_law_366 : decode cL_law 366 = .ok (.aload_n 0, 1) := by decide +kernel
theorem dL_law_367 : decode cL_law 367 = .ok (.iload_n 3, 1) := by decide +kernel
theorem dL_law_368 : decode cL_law 368 = .ok (.iconst 1, 1) := by decide +kernel
theorem dL_law_369 : decode cL_law 369 = .ok (.iadd, 1) := by decide +kernel
theorem dL_law_370 : decode cL_law 370 = .ok (.iaload, 1) := by decide +kernel
theorem dL_law_371 : decode cL_law 371 = .ok (.aload_n 0, 1) := by decide +kernel
theorem dL_law_372 : decode cL_law 372 = .ok (.iload_n 3, 1) := by decide +kernel
theorem dL_law_373 : decode cL_law 373 = .ok (.iconst 2, 1) := by decide +kernel
theorem dL_law_374 : decode cL_law 374 = .ok (.iadd, 1) := by decide +kernel
theorem dL_law_375 : decode cL_law 375 = .ok (.iaload, 1) := by decide +kernel
theorem dL_law_376 : decode cL_law 376 = .ok (.invokevirtual 40, 3) := by decide +kernel
theorem dL_law_379 : decode cL_law 379 = .ok (.if_icmp .eq 838, 3) := by decide +kernel
theorem dL_law_384 : decode cL_law 384 = .ok (.aload_n 1, 1) := by decide +kernel
theorem dL_law_385 : decode cL_law 385 = .ok (.aload_n 0, 1) := by decide +kernel
theorem dL_law_386 : decode cL_law 386 = .ok (.iload_n 3, 1) := by decide +kernel
theorem dL_law_387 : decode cL_law 387 = .ok (.iconst 1, 1) := by decide +kernel
theorem dL_law_388 : decode cL_law 388 = .ok (.iadd, 1) := by decide +kernel
theorem dL_law_389 : decode cL_law 389 = .ok (.iaload, 1) := by decide +kernel
theorem dL_law_390 : decode cL_law 390 = .ok (.aload_n 0, 1) := by decide +kernel
theorem dL_law_391 : decode cL_law 391 = .ok (.iload_n 3, 1) := by decide +kernel
theorem dL_law_392 : decode cL_law 392 = .ok (.iconst 2, 1) := by decide +kernel
theorem dL_law_393 : decode cL_law 393 = .ok (.iadd, 1) := by decide +kernel
theorem dL_law_394 : decode cL_law 394 = .ok (.iaload, 1) := by decide +kernel
theorem dL_law_395 : decode cL_law 395 = .ok (.invokevirtual 41, 3) := by decide +kernel
theorem dL_law_398 : decode cL_law 398 = .ok (.aload_n 2, 1) := by decide +kernel
theorem dL_law_399 : decode cL_law 399 = .ok (.aload_n 0, 1) := by decide +kernel
theorem dL_law_400 : decode cL_law 400 = .ok (.iload_n 3, 1) := by decide +kernel
theorem dL_law_401 : decode cL_law 401 = .ok (.iconst 1, 1) := by decide +kernel
theorem dL_law_402 : decode cL_law 402 = .ok (.iadd, 1) := by decide +kernel
theorem dL_law_403 : decode cL_law 403 = .ok (.iaload, 1) := by decide +kernel
theorem dL_law_404 : decode cL_law 404 = .ok (.aload_n 0, 1) := by decide +kernel
theorem dL_law_405 : decode cL_law 405 = .ok (.iload_n 3, 1) := by decide +kernel
theorem dL_law_406 : decode cL_law 406 = .ok (.iconst 2, 1) := by decide +kernel
theorem dL_law_407 : decode cL_law 407 = .ok (.iadd, 1) := by decide +kernel
theorem dL_law_408 : decode cL_law 408 = .ok (.iaload, 1) := by decide +kernel
theorem dL_law_409 : decode cL_law 409 = .ok (.invokevirtual 44, 3) := by decide +kernel
theorem dL_law_412 : decode cL_law 412 = .ok (.if_icmp .eq 805, 3) := by decide +kernel
theorem dL_law_417 : decode cL_law 417 = .ok (.aload_n 1, 1) := by decide +kernel
theorem dL_law_418 : decode cL_law 418 = .ok (.aload_n 0, 1) := by decide +kernel
theorem dL_law_419 : decode cL_law 419 = .ok (.iload_n 3, 1) := by decide +kernel
theorem dL_law_420 : decode cL_law 420 = .ok (.iconst 1, 1) := by decide +kernel
theorem dL_law_421 : decode cL_law 421 = .ok (.iadd, 1) := by decide +kernel
theorem dL_law_422 : decode cL_law 422 = .ok (.iaload, 1) := by decide +kernel
theorem dL_law_423 : decode cL_law 423 = .ok (.aload_n 0, 1) := by decide +kernel
theorem dL_law_424 : decode cL_law 424 = .ok (.iload_n 3, 1) := by decide +kernel
theorem dL_law_425 : decode cL_law 425 = .ok (.iconst 2, 1) := by decide +kernel
theorem dL_law_426 : decode cL_law 426 = .ok (.iadd, 1) := by decide +kernel
theorem dL_law_427 : decode cL_law 427 = .ok (.iaload, 1) := by decide +kernel
theorem dL_law_428 : decode cL_law 428 = .ok (.aload_n 0, 1) := by decide +kernel
theorem dL_law_429 : decode cL_law 429 = .ok (.iload_n 3, 1) := by decide +kernel
theorem dL_law_430 : decode cL_law 430 = .ok (.iconst 3, 1) := by decide +kernel
theorem dL_law_431 : decode cL_law 431 = .ok (.iadd, 1) := by decide +kernel
theorem dL_law_432 : decode cL_law 432 = .ok (.iaload, 1) := by decide +kernel
theorem dL_law_433 : decode cL_law 433 = .ok (.invokevirtual 45, 3) := by decide +kernel
theorem dL_law_436 : decode cL_law 436 = .ok (.aload_n 2, 1) := by decide +kernel
theorem dL_law_437 : decode cL_law 437 = .ok (.aload_n 0, 1) := by decide +kernel
theorem dL_law_438 : decode cL_law 438 = .ok (.iload_n 3, 1) := by decide +kernel
theorem dL_law_439 : decode cL_law 439 = .ok (.iconst 1, 1) := by decide +kernel
theorem dL_law_440 : decode cL_law 440 = .ok (.iadd, 1) := by decide +kernel
theorem dL_law_441 : decode cL_law 441 = .ok (.iaload, 1) := by decide +kernel
theorem dL_law_442 : decode cL_law 442 = .ok (.aload_n 0, 1) := by decide +kernel
theorem dL_law_443 : decode cL_law 443 = .ok (.iload_n 3, 1) := by decide +kernel
theorem dL_law_444 : decode cL_law 444 = .ok (.iconst 2, 1) := by decide +kernel
theorem dL_law_445 : decode cL_law 445 = .ok (.iadd, 1) := by decide +kernel
theorem dL_law_446 : decode cL_law 446 = .ok (.iaload, 1) := by decide +kernel
theorem dL_law_447 : decode cL_law 447 = .ok (.aload_n 0, 1) := by decide +kernel
theorem dL_law_448 : decode cL_law 448 = .ok (.iload_n 3, 1) := by decide +kernel
theorem dL_law_449 : decode cL_law 449 = .ok (.iconst 3, 1) := by decide +kernel
theorem dL_law_450 : decode cL_law 450 = .ok (.iadd, 1) := by decide +kernel
theorem dL_law_451 : decode cL_law 451 = .ok (.iaload, 1) := by decide +kernel
theorem dL_law_452 : decode cL_law 452 = .ok (.invokevirtual 49, 3) := by decide +kernel
theorem dL_law_455 : decode cL_law 455 = .ok (.if_icmp .eq 762, 3) := by decide +kernel
theorem dL_law_460 : decode cL_law 460 = .ok (.aload_n 1, 1) := by decide +kernel
theorem dL_law_461 : decode cL_law 461 = .ok (.aload_n 0, 1) := by decide +kernel
theorem dL_law_462 : decode cL_law 462 = .ok (.iload_n 3, 1) := by decide +kernel
theorem dL_law_463 : decode cL_law 463 = .ok (.iconst 1, 1) := by decide +kernel
theorem dL_law_464 : decode cL_law 464 = .ok (.iadd, 1) := by decide +kernel
theorem dL_law_465 : decode cL_law 465 = .ok (.iaload, 1) := by decide +kernel
theorem dL_law_466 : decode cL_law 466 = .ok (.aload_n 0, 1) := by decide +kernel
theorem dL_law_467 : decode cL_law 467 = .ok (.iload_n 3, 1) := by decide +kernel
theorem dL_law_468 : decode cL_law 468 = .ok (.iconst 2, 1) := by decide +kernel
theorem dL_law_469 : decode cL_law 469 = .ok (.iadd, 1) := by decide +kernel
theorem dL_law_470 : decode cL_law 470 = .ok (.iaload, 1) := by decide +kernel
theorem dL_law_471 : decode cL_law 471 = .ok (.invokevirtual 50, 3) := by decide +kernel
theorem dL_law_474 : decode cL_law 474 = .ok (.aload_n 2, 1) := by decide +kernel
theorem dL_law_475 : decode cL_law 475 = .ok (.aload_n 0, 1) := by decide +kernel
theorem dL_law_476 : decode cL_law 476 = .ok (.iload_n 3, 1) := by decide +kernel
theorem dL_law_477 : decode cL_law 477 = .ok (.iconst 1, 1) := by decide +kernel
theorem dL_law_478 : decode cL_law 478 = .ok (.iadd, 1) := by decide +kernel
theorem dL_law_479 : decode cL_law 479 = .ok (.iaload, 1) := by decide +kernel
theorem dL_law_480 : decode cL_law 480 = .ok (.aload_n 0, 1) := by decide +kernel
theorem dL_law_481 : decode cL_law 481 = .ok (.iload_n 3, 1) := by decide +kernel
theorem dL_law_482 : decode cL_law 482 = .ok (.iconst 2, 1) := by decide +kernel
theorem dL_law_483 : decode cL_law 483 = .ok (.iadd, 1) := by decide +kernel
theorem dL_law_484 : decode cL_law 484 = .ok (.iaload, 1) := by decide +kernel
theorem dL_law_485 : decode cL_law 485 = .ok (.invokevirtual 53, 3) := by decide +kernel
theorem dL_law_488 : decode cL_law 488 = .ok (.if_icmp .eq 729, 3) := by decide +kernel
theorem dL_law_493 : decode cL_law 493 = .ok (.aload_n 1, 1) := by decide +kernel
theorem dL_law_494 : decode cL_law 494 = .ok (.aload_n 0, 1) := by decide +kernel
theorem dL_law_495 : decode cL_law 495 = .ok (.iload_n 3, 1) := by decide +kernel
theorem dL_law_496 : decode cL_law 496 = .ok (.iconst 1, 1) := by decide +kernel
theorem dL_law_497 : decode cL_law 497 = .ok (.iadd, 1) := by decide +kernel
theorem dL_law_498 : decode cL_law 498 = .ok (.iaload, 1) := by decide +kernel
theorem dL_law_499 : decode cL_law 499 = .ok (.invokevirtual 54, 3) := by decide +kernel
theorem dL_law_502 : decode cL_law 502 = .ok (.aload_n 2, 1) := by decide +kernel
theorem dL_law_503 : decode cL_law 503 = .ok (.aload_n 0, 1) := by decide +kernel
theorem dL_law_504 : decode cL_law 504 = .ok (.iload_n 3, 1) := by decide +kernel
theorem dL_law_505 : decode cL_law 505 = .ok (.iconst 1, 1) := by decide +kernel
theorem dL_law_506 : decode cL_law 506 = .ok (.iadd, 1) := by decide +kernel
theorem dL_law_507 : decode cL_law 507 = .ok (.iaload, 1) := by decide +kernel
theorem dL_law_508 : decode cL_law 508 = .ok (.invokevirtual 57, 3) := by decide +kernel
theorem dL_law_511 : decode cL_law 511 = .ok (.if_icmp .eq 706, 3) := by decide +kernel
theorem dL_law_516 : decode cL_law 516 = .ok (.aload_n 1, 1) := by decide +kernel
theorem dL_law_517 : decode cL_law 517 = .ok (.aload_n 0, 1) := by decide +kernel
theorem dL_law_518 : decode cL_law 518 = .ok (.iload_n 3, 1) := by decide +kernel
theorem dL_law_519 : decode cL_law 519 = .ok (.iconst 1, 1) := by decide +kernel
theorem dL_law_520 : decode cL_law 520 = .ok (.iadd, 1) := by decide +kernel
theorem dL_law_521 : decode cL_law 521 = .ok (.iaload, 1) := by decide +kernel
theorem dL_law_522 : decode cL_law 522 = .ok (.invokevirtual 58, 3) := by decide +kernel
theorem dL_law_525 : decode cL_law 525 = .ok (.aload_n 2, 1) := by decide +kernel
theorem dL_law_526 : decode cL_law 526 = .ok (.aload_n 0, 1) := by decide +kernel
theorem dL_law_527 : decode cL_law 527 = .ok (.iload_n 3, 1) := by decide +kernel
theorem dL_law_528 : decode cL_law 528 = .ok (.iconst 1, 1) := by decide +kernel
theorem dL_law_529 : decode cL_law 529 = .ok (.iadd, 1) := by decide +kernel
theorem dL_law_530 : decode cL_law 530 = .ok (.iaload, 1) := by decide +kernel
theorem dL_law_531 : decode cL_law 531 = .ok (.invokevirtual 61, 3) := by decide +kernel
theorem dL_law_534 : decode cL_law 534 = .ok (.if_icmp .eq 683, 3) := by decide +kernel
theorem dL_law_539 : decode cL_law 539 = .ok (.aload_n 1, 1) := by decide +kernel
theorem dL_law_540 : decode cL_law 540 = .ok (.aload_n 0, 1) := by decide +kernel
theorem dL_law_541 : decode cL_law 541 = .ok (.iload_n 3, 1) := by decide +kernel
theorem dL_law_542 : decode cL_law 542 = .ok (.iconst 1, 1) := by decide +kernel
theorem dL_law_543 : decode cL_law 543 = .ok (.iadd, 1) := by decide +kernel
theorem dL_law_544 : decode cL_law 544 = .ok (.iaload, 1) := by decide +kernel
theorem dL_law_545 : decode cL_law 545 = .ok (.invokevirtual 62, 3) := by decide +kernel
theorem dL_law_548 : decode cL_law 548 = .ok (.aload_n 2, 1) := by decide +kernel
theorem dL_law_549 : decode cL_law 549 = .ok (.aload_n 0, 1) := by decide +kernel
theorem dL_law_550 : decode cL_law 550 = .ok (.iload_n 3, 1) := by decide +kernel
theorem dL_law_551 : decode cL_law 551 = .ok (.iconst 1, 1) := by decide +kernel
theorem dL_law_552 : decode cL_law 552 = .ok (.iadd, 1) := by decide +kernel
theorem dL_law_553 : decode cL_law 553 = .ok (.iaload, 1) := by decide +kernel
theorem dL_law_554 : decode cL_law 554 = .ok (.invokevirtual 65, 3) := by decide +kernel
theorem dL_law_557 : decode cL_law 557 = .ok (.if_icmp .eq 660, 3) := by decide +kernel
theorem dL_law_562 : decode cL_law 562 = .ok (.aload_n 1, 1) := by decide +kernel
theorem dL_law_563 : decode cL_law 563 = .ok (.aload_n 0, 1) := by decide +kernel
theorem dL_law_564 : decode cL_law 564 = .ok (.iload_n 3, 1) := by decide +kernel
theorem dL_law_565 : decode cL_law 565 = .ok (.iconst 1, 1) := by decide +kernel
theorem dL_law_566 : decode cL_law 566 = .ok (.iadd, 1) := by decide +kernel
theorem dL_law_567 : decode cL_law 567 = .ok (.iaload, 1) := by decide +kernel
theorem dL_law_568 : decode cL_law 568 = .ok (.aload_n 0, 1) := by decide +kernel
theorem dL_law_569 : decode cL_law 569 = .ok (.iload_n 3, 1) := by decide +kernel
theorem dL_law_570 : decode cL_law 570 = .ok (.iconst 2, 1) := by decide +kernel
theorem dL_law_571 : decode cL_law 571 = .ok (.iadd, 1) := by decide +kernel
theorem dL_law_572 : decode cL_law 572 = .ok (.iaload, 1) := by decide +kernel
theorem dL_law_573 : decode cL_law 573 = .ok (.invokevirtual 66, 3) := by decide +kernel
theorem dL_law_576 : decode cL_law 576 = .ok (.aload_n 2, 1) := by decide +kernel
theorem dL_law_577 : decode cL_law 577 = .ok (.aload_n 0, 1) := by decide +kernel
theorem dL_law_578 : decode cL_law 578 = .ok (.iload_n 3, 1) := by decide +kernel
theorem dL_law_579 : decode cL_law 579 = .ok (.iconst 1, 1) := by decide +kernel
theorem dL_law_580 : decode cL_law 580 = .ok (.iadd, 1) := by decide +kernel
theorem dL_law_581 : decode cL_law 581 = .ok (.iaload, 1) := by decide +kernel
theorem dL_law_582 : decode cL_law 582 = .ok (.aload_n 0, 1) := by decide +kernel
theorem dL_law_583 : decode cL_law 583 = .ok (.iload_n 3, 1) := by decide +kernel
theorem dL_law_584 : decode cL_law 584 = .ok (.iconst 2, 1) := by decide +kernel
theorem dL_law_585 : decode cL_law 585 = .ok (.iadd, 1) := by decide +kernel
theorem dL_law_586 : decode cL_law 586 = .ok (.iaload, 1) := by decide +kernel
theorem dL_law_587 : decode cL_law 587 = .ok (.invokevirtual 69, 3) := by decide +kernel
theorem dL_law_590 : decode cL_law 590 = .ok (.if_icmp .eq 627, 3) := by decide +kernel
theorem dL_law_595 : decode cL_law 595 = .ok (.aload_n 1, 1) := by decide +kernel
theorem dL_law_596 : decode cL_law 596 = .ok (.aload_n 0, 1) := by decide +kernel
theorem dL_law_597 : decode cL_law 597 = .ok (.iload_n 3, 1) := by decide +kernel
theorem dL_law_598 : decode cL_law 598 = .ok (.iconst 1, 1) := by decide +kernel
theorem dL_law_599 : decode cL_law 599 = .ok (.iadd, 1) := by decide +kernel
theorem dL_law_600 : decode cL_law 600 = .ok (.iaload, 1) := by decide +kernel
theorem dL_law_601 : decode cL_law 601 = .ok (.aload_n 0, 1) := by decide +kernel
theorem dL_law_602 : decode cL_law 602 = .ok (.iload_n 3, 1) := by decide +kernel
theorem dL_law_603 : decode cL_law 603 = .ok (.iconst 2, 1) := by decide +kernel
theorem dL_law_604 : decode cL_law 604 = .ok (.iadd, 1) := by decide +kernel
theorem dL_law_605 : decode cL_law 605 = .ok (.iaload, 1) := by decide +kernel
theorem dL_law_606 : decode cL_law 606 = .ok (.aload_n 0, 1) := by decide +kernel
theorem dL_law_607 : decode cL_law 607 = .ok (.iload_n 3, 1) := by decide +kernel
theorem dL_law_608 : decode cL_law 608 = .ok (.iconst 3, 1) := by decide +kernel
theorem dL_law_609 : decode cL_law 609 = .ok (.iadd, 1) := by decide +kernel
theorem dL_law_610 : decode cL_law 610 = .ok (.iaload, 1) := by decide +kernel
theorem dL_law_611 : decode cL_law 611 = .ok (.invokevirtual 70, 3) := by decide +kernel
theorem dL_law_614 : decode cL_law 614 = .ok (.aload_n 2, 1) := by decide +kernel
theorem dL_law_615 : decode cL_law 615 = .ok (.aload_n 0, 1) := by decide +kernel
theorem dL_law_616 : decode cL_law 616 = .ok (.iload_n 3, 1) := by decide +kernel
theorem dL_law_617 : decode cL_law 617 = .ok (.iconst 1, 1) := by decide +kernel
theorem dL_law_618 : decode cL_law 618 = .ok (.iadd, 1) := by decide +kernel
theorem dL_law_619 : decode cL_law 619 = .ok (.iaload, 1) := by decide +kernel
theorem dL_law_620 : decode cL_law 620 = .ok (.aload_n 0, 1) := by decide +kernel
theorem dL_law_621 : decode cL_law 621 = .ok (.iload_n 3, 1) := by decide +kernel
theorem dL_law_622 : decode cL_law 622 = .ok (.iconst 2, 1) := by decide +kernel
theorem dL_law_623 : decode cL_law 623 = .ok (.iadd, 1) := by decide +kernel
theorem dL_law_624 : decode cL_law 624 = .ok (.iaload, 1) := by decide +kernel
theorem dL_law_625 : decode cL_law 625 = .ok (.aload_n 0, 1) := by decide +kernel
theorem dL_law_626 : decode cL_law 626 = .ok (.iload_n 3, 1) := by decide +kernel
theorem dL_law_627 : decode cL_law 627 = .ok (.iconst 3, 1) := by decide +kernel
theorem dL_law_628 : decode cL_law 628 = .ok (.iadd, 1) := by decide +kernel
theorem dL_law_629 : decode cL_law 629 = .ok (.iaload, 1) := by decide +kernel
theorem dL_law_630 : decode cL_law 630 = .ok (.invokevirtual 73, 3) := by decide +kernel
theorem dL_law_633 : decode cL_law 633 = .ok (.if_icmp .eq 584, 3) := by decide +kernel
theorem dL_law_638 : decode cL_law 638 = .ok (.aload_n 1, 1) := by decide +kernel
theorem dL_law_639 : decode cL_law 639 = .ok (.aload_n 0, 1) := by decide +kernel
theorem dL_law_640 : decode cL_law 640 = .ok (.iload_n 3, 1) := by decide +kernel
theorem dL_law_641 : decode cL_law 641 = .ok (.iconst 1, 1) := by decide +kernel
theorem dL_law_642 : decode cL_law 642 = .ok (.iadd, 1) := by decide +kernel
theorem dL_law_643 : decode cL_law 643 = .ok (.iaload, 1) := by decide +kernel
theorem dL_law_644 : decode cL_law 644 = .ok (.aload_n 0, 1) := by decide +kernel
theorem dL_law_645 : decode cL_law 645 = .ok (.iload_n 3, 1) := by decide +kernel
theorem dL_law_646 : decode cL_law 646 = .ok (.iconst 2, 1) := by decide +kernel
theorem dL_law_647 : decode cL_law 647 = .ok (.iadd, 1) := by decide +kernel
theorem dL_law_648 : decode cL_law 648 = .ok (.iaload, 1) := by decide +kernel
theorem dL_law_649 : decode cL_law 649 = .ok (.invokevirtual 74, 3) := by decide +kernel
theorem dL_law_652 : decode cL_law 652 = .ok (.aload_n 2, 1) := by decide +kernel
theorem dL_law_653 : decode cL_law 653 = .ok (.aload_n 0, 1) := by decide +kernel
theorem dL_law_654 : decode cL_law 654 = .ok (.iload_n 3, 1) := by decide +kernel
theorem dL_law_655 : decode cL_law 655 = .ok (.iconst 1, 1) := by decide +kernel
theorem dL_law_656 : decode cL_law 656 = .ok (.iadd, 1) := by decide +kernel
theorem dL_law_657 : decode cL_law 657 = .ok (.iaload, 1) := by decide +kernel
theorem dL_law_658 : decode cL_law 658 = .ok (.aload_n 0, 1) := by decide +kernel
theorem dL_law_659 : decode cL_law 659 = .ok (.iload_n 3, 1) := by decide +kernel
theorem dL_law_660 : decode cL_law 660 = .ok (.iconst 2, 1) := by decide +kernel
theorem dL_law_661 : decode cL_law 661 = .ok (.iadd, 1) := by decide +kernel
theorem dL_law_662 : decode cL_law 662 = .ok (.iaload, 1) := by decide +kernel
theorem dL_law_663 : decode cL_law 663 = .ok (.invokevirtual 77, 3) := by decide +kernel
theorem dL_law_666 : decode cL_law 666 = .ok (.if_icmp .eq 551, 3) := by decide +kernel
theorem dL_law_671 : decode cL_law 671 = .ok (.aload_n 1, 1) := by decide +kernel
theorem dL_law_672 : decode cL_law 672 = .ok (.aload_n 0, 1) := by decide +kernel
theorem dL_law_673 : decode cL_law 673 = .ok (.iload_n 3, 1) := by decide +kernel
theorem dL_law_674 : decode cL_law 674 = .ok (.iconst 1, 1) := by decide +kernel
theorem dL_law_675 : decode cL_law 675 = .ok (.iadd, 1) := by decide +kernel
theorem dL_law_676 : decode cL_law 676 = .ok (.iaload, 1) := by decide +kernel
theorem dL_law_677 : decode cL_law 677 = .ok (.invokevirtual 78, 3) := by decide +kernel
theorem dL_law_680 : decode cL_law 680 = .ok (.aload_n 2, 1) := by decide +kernel
theorem dL_law_681 : decode cL_law 681 = .ok (.aload_n 0, 1) := by decide +kernel
theorem dL_law_682 : decode cL_law 682 = .ok (.iload_n 3, 1) := by decide +kernel
theorem dL_law_683 : decode cL_law 683 = .ok (.iconst 1, 1) := by decide +kernel
theorem dL_law_684 : decode cL_law 684 = .ok (.iadd, 1) := by decide +kernel
theorem dL_law_685 : decode cL_law 685 = .ok (.iaload, 1) := by decide +kernel
theorem dL_law_686 : decode cL_law 686 = .ok (.invokevirtual 82, 3) := by decide +kernel
theorem dL_law_689 : decode cL_law 689 = .ok (.if_icmp .eq 528, 3) := by decide +kernel
theorem dL_law_694 : decode cL_law 694 = .ok (.aload_n 1, 1) := by decide +kernel
theorem dL_law_695 : decode cL_law 695 = .ok (.aload_n 0, 1) := by decide +kernel
theorem dL_law_696 : decode cL_law 696 = .ok (.iload_n 3, 1) := by decide +kernel
theorem dL_law_697 : decode cL_law 697 = .ok (.iconst 1, 1) := by decide +kernel
theorem dL_law_698 : decode cL_law 698 = .ok (.iadd, 1) := by decide +kernel
theorem dL_law_699 : decode cL_law 699 = .ok (.iaload, 1) := by decide +kernel
theorem dL_law_700 : decode cL_law 700 = .ok (.aload_n 0, 1) := by decide +kernel
theorem dL_law_701 : decode cL_law 701 = .ok (.iload_n 3, 1) := by decide +kernel
theorem dL_law_702 : decode cL_law 702 = .ok (.iconst 2, 1) := by decide +kernel
theorem dL_law_703 : decode cL_law 703 = .ok (.iadd, 1) := by decide +kernel
theorem dL_law_704 : decode cL_law 704 = .ok (.iaload, 1) := by decide +kernel
theorem dL_law_705 : decode cL_law 705 = .ok (.invokevirtual 83, 3) := by decide +kernel
theorem dL_law_708 : decode cL_law 708 = .ok (.aload_n 2, 1) := by decide +kernel
theorem dL_law_709 : decode cL_law 709 = .ok (.aload_n 0, 1) := by decide +kernel
theorem dL_law_710 : decode cL_law 710 = .ok (.iload_n 3, 1) := by decide +kernel
theorem dL_law_711 : decode cL_law 711 = .ok (.iconst 1, 1) := by decide +kernel
theorem dL_law_712 : decode cL_law 712 = .ok (.iadd, 1) := by decide +kernel
theorem dL_law_713 : decode cL_law 713 = .ok (.iaload, 1) := by decide +kernel
theorem dL_law_714 : decode cL_law 714 = .ok (.aload_n 0, 1) := by decide +kernel
theorem dL_law_715 : decode cL_law 715 = .ok (.iload_n 3, 1) := by decide +kernel
theorem dL_law_716 : decode cL_law 716 = .ok (.iconst 2, 1) := by decide +kernel
theorem dL_law_717 : decode cL_law 717 = .ok (.iadd, 1) := by decide +kernel
theorem dL_law_718 : decode cL_law 718 = .ok (.iaload, 1) := by decide +kernel
theorem dL_law_719 : decode cL_law 719 = .ok (.invokevirtual 86, 3) := by decide +kernel
theorem dL_law_722 : decode cL_law 722 = .ok (.if_icmp .eq 495, 3) := by decide +kernel
theorem dL_law_727 : decode cL_law 727 = .ok (.aload_n 1, 1) := by decide +kernel
theorem dL_law_728 : decode cL_law 728 = .ok (.aload_n 0, 1) := by decide +kernel
theorem dL_law_729 : decode cL_law 729 = .ok (.iload_n 3, 1) := by decide +kernel
theorem dL_law_730 : decode cL_law 730 = .ok (.iconst 1, 1) := by decide +kernel
theorem dL_law_731 : decode cL_law 731 = .ok (.iadd, 1) := by decide +kernel
theorem dL_law_732 : decode cL_law 732 = .ok (.iaload, 1) := by decide +kernel
theorem dL_law_733 : decode cL_law 733 = .ok (.invokevirtual 87, 3) := by decide +kernel
theorem dL_law_736 : decode cL_law 736 = .ok (.aload_n 2, 1) := by decide +kernel
theorem dL_law_737 : decode cL_law 737 = .ok (.aload_n 0, 1) := by decide +kernel
theorem dL_law_738 : decode cL_law 738 = .ok (.iload_n 3, 1) := by decide +kernel
theorem dL_law_739 : decode cL_law 739 = .ok (.iconst 1, 1) := by decide +kernel
theorem dL_law_740 : decode cL_law 740 = .ok (.iadd, 1) := by decide +kernel
theorem dL_law_741 : decode cL_law 741 = .ok (.iaload, 1) := by decide +kernel
theorem dL_law_742 : decode cL_law 742 = .ok (.invokevirtual 90, 3) := by decide +kernel
theorem dL_law_745 : decode cL_law 745 = .ok (.if_icmp .eq 472, 3) := by decide +kernel
theorem dL_law_750 : decode cL_law 750 = .ok (.aload_n 1, 1) := by decide +kernel
theorem dL_law_751 : decode cL_law 751 = .ok (.invokevirtual 91, 3) := by decide +kernel
theorem dL_law_754 : decode cL_law 754 = .ok (.aload_n 2, 1) := by decide +kernel
theorem dL_law_755 : decode cL_law 755 = .ok (.invokevirtual 95, 3) := by decide +kernel
theorem dL_law_758 : decode cL_law 758 = .ok (.if_icmp .eq 459, 3) := by decide +kernel
theorem dL_law_763 : decode cL_law 763 = .ok (.aload_n 1, 1) := by decide +kernel
theorem dL_law_764 : decode cL_law 764 = .ok (.invokevirtual 96, 3) := by decide +kernel
theorem dL_law_767 : decode cL_law 767 = .ok (.aload_n 2, 1) := by decide +kernel
theorem dL_law_768 : decode cL_law 768 = .ok (.invokevirtual 99, 3) := by decide +kernel
theorem dL_law_771 : decode cL_law 771 = .ok (.if_icmp .eq 446, 3) := by decide +kernel
theorem dL_law_776 : decode cL_law 776 = .ok (.aload_n 1, 1) := by decide +kernel
theorem dL_law_777 : decode cL_law 777 = .ok (.aload_n 0, 1) := by decide +kernel
theorem dL_law_778 : decode cL_law 778 = .ok (.iload_n 3, 1) := by decide +kernel
theorem dL_law_779 : decode cL_law 779 = .ok (.iconst 1, 1) := by decide +kernel
theorem dL_law_780 : decode cL_law 780 = .ok (.iadd, 1) := by decide +kernel
theorem dL_law_781 : decode cL_law 781 = .ok (.iaload, 1) := by decide +kernel
theorem dL_law_782 : decode cL_law 782 = .ok (.invokevirtual 100, 3) := by decide +kernel
theorem dL_law_785 : decode cL_law 785 = .ok (.aload_n 2, 1) := by decide +kernel
theorem dL_law_786 : decode cL_law 786 = .ok (.aload_n 0, 1) := by decide +kernel
theorem dL_law_787 : decode cL_law 787 = .ok (.iload_n 3, 1) := by decide +kernel
theorem dL_law_788 : decode cL_law 788 = .ok (.iconst 1, 1) := by decide +kernel
theorem dL_law_789 : decode cL_law 789 = .ok (.iadd, 1) := by decide +kernel
theorem dL_law_790 : decode cL_law 790 = .ok (.iaload, 1) := by decide +kernel
theorem dL_law_791 : decode cL_law 791 = .ok (.invokevirtual 103, 3) := by decide +kernel
theorem dL_law_794 : decode cL_law 794 = .ok (.if_icmp .eq 423, 3) := by decide +kernel
theorem dL_law_799 : decode cL_law 799 = .ok (.aload_n 1, 1) := by decide +kernel
theorem dL_law_800 : decode cL_law 800 = .ok (.aload_n 0, 1) := by decide +kernel
theorem dL_law_801 : decode cL_law 801 = .ok (.iload_n 3, 1) := by decide +kernel
theorem dL_law_802 : decode cL_law 802 = .ok (.iconst 1, 1) := by decide +kernel
theorem dL_law_803 : decode cL_law 803 = .ok (.iadd, 1) := by decide +kernel
theorem dL_law_804 : decode cL_law 804 = .ok (.iaload, 1) := by decide +kernel
theorem dL_law_805 : decode cL_law 805 = .ok (.aload_n 0, 1) := by decide +kernel
theorem dL_law_806 : decode cL_law 806 = .ok (.iload_n 3, 1) := by decide +kernel
theorem dL_law_807 : decode cL_law 807 = .ok (.iconst 2, 1) := by decide +kernel
theorem dL_law_808 : decode cL_law 808 = .ok (.iadd, 1) := by decide +kernel
theorem dL_law_809 : decode cL_law 809 = .ok (.iaload, 1) := by decide +kernel
theorem dL_law_810 : decode cL_law 810 = .ok (.invokevirtual 104, 3) := by decide +kernel
theorem dL_law_813 : decode cL_law 813 = .ok (.aload_n 2, 1) := by decide +kernel
theorem dL_law_814 : decode cL_law 814 = .ok (.aload_n 0, 1) := by decide +kernel
theorem dL_law_815 : decode cL_law 815 = .ok (.iload_n 3, 1) := by decide +kernel
theorem dL_law_816 : decode cL_law 816 = .ok (.iconst 1, 1) := by decide +kernel
theorem dL_law_817 : decode cL_law 817 = .ok (.iadd, 1) := by decide +kernel
theorem dL_law_818 : decode cL_law 818 = .ok (.iaload, 1) := by decide +kernel
theorem dL_law_819 : decode cL_law 819 = .ok (.aload_n 0, 1) := by decide +kernel
theorem dL_law_820 : decode cL_law 820 = .ok (.iload_n 3, 1) := by decide +kernel
theorem dL_law_821 : decode cL_law 821 = .ok (.iconst 2, 1) := by decide +kernel
theorem dL_law_822 : decode cL_law 822 = .ok (.iadd, 1) := by decide +kernel
theorem dL_law_823 : decode cL_law 823 = .ok (.iaload, 1) := by decide +kernel
theorem dL_law_824 : decode cL_law 824 = .ok (.invokevirtual 107, 3) := by decide +kernel
theorem dL_law_827 : decode cL_law 827 = .ok (.if_icmp .eq 390, 3) := by decide +kernel
theorem dL_law_832 : decode cL_law 832 = .ok (.aload_n 1, 1) := by decide +kernel
theorem dL_law_833 : decode cL_law 833 = .ok (.aload_n 0, 1) := by decide +kernel
theorem dL_law_834 : decode cL_law 834 = .ok (.iload_n 3, 1) := by decide +kernel
theorem dL_law_835 : decode cL_law 835 = .ok (.iconst 1, 1) := by decide +kernel
theorem dL_law_836 : decode cL_law 836 = .ok (.iadd, 1) := by decide +kernel
theorem dL_law_837 : decode cL_law 837 = .ok (.iaload, 1) := by decide +kernel
theorem dL_law_838 : decode cL_law 838 = .ok (.aload_n 0, 1) := by decide +kernel
theorem dL_law_839 : decode cL_law 839 = .ok (.iload_n 3, 1) := by decide +kernel
theorem dL_law_840 : decode cL_law 840 = .ok (.iconst 2, 1) := by decide +kernel
theorem dL_law_841 : decode cL_law 841 = .ok (.iadd, 1) := by decide +kernel
theorem dL_law_842 : decode cL_law 842 = .ok (.iaload, 1) := by decide +kernel
theorem dL_law_843 : decode cL_law 843 = .ok (.invokevirtual 108, 3) := by decide +kernel
theorem dL_law_846 : decode cL_law 846 = .ok (.aload_n 2, 1) := by decide +kernel
theorem dL_law_847 : decode cL_law 847 = .ok (.aload_n 0, 1) := by decide +kernel
theorem dL_law_848 : decode cL_law 848 = .ok (.iload_n 3, 1) := by decide +kernel
theorem dL_law_849 : decode cL_law 849 = .ok (.iconst 1, 1) := by decide +kernel
theorem dL_law_850 : decode cL_law 850 = .ok (.iadd, 1) := by decide +kernel
theorem dL_law_851 : decode cL_law 851 = .ok (.iaload, 1) := by decide +kernel
theorem dL_law_852 : decode cL_law 852 = .ok (.aload_n 0, 1) := by decide +kernel
theorem dL_law_853 : decode cL_law 853 = .ok (.iload_n 3, 1) := by decide +kernel
theorem dL_law_854 : decode cL_law 854 = .ok (.iconst 2, 1) := by decide +kernel
theorem dL_law_855 : decode cL_law 855 = .ok (.iadd, 1) := by decide +kernel
theorem dL_law_856 : decode cL_law 856 = .ok (.iaload, 1) := by decide +kernel
theorem dL_law_857 : decode cL_law 857 = .ok (.invokevirtual 111, 3) := by decide +kernel
theorem dL_law_860 : decode cL_law 860 = .ok (.if_icmp .eq 357, 3) := by decide +kernel
theorem dL_law_865 : decode cL_law 865 = .ok (.aload_n 1, 1) := by decide +kernel
theorem dL_law_866 : decode cL_law 866 = .ok (.aload_n 0, 1) := by decide +kernel
theorem dL_law_867 : decode cL_law 867 = .ok (.iload_n 3, 1) := by decide +kernel
theorem dL_law_868 : decode cL_law 868 = .ok (.iconst 1, 1) := by decide +kernel
theorem dL_law_869 : decode cL_law 869 = .ok (.iadd, 1) := by decide +kernel
theorem dL_law_870 : decode cL_law 870 = .ok (.iaload, 1) := by decide +kernel
theorem dL_law_871 : decode cL_law 871 = .ok (.invokevirtual 112, 3) := by decide +kernel
theorem dL_law_874 : decode cL_law 874 = .ok (.aload_n 2, 1) := by decide +kernel
theorem dL_law_875 : decode cL_law 875 = .ok (.aload_n 0, 1) := by decide +kernel
theorem dL_law_876 : decode cL_law 876 = .ok (.iload_n 3, 1) := by decide +kernel
theorem dL_law_877 : decode cL_law 877 = .ok (.iconst 1, 1) := by decide +kernel
theorem dL_law_878 : decode cL_law 878 = .ok (.iadd, 1) := by decide +kernel
theorem dL_law_879 : decode cL_law 879 = .ok (.iaload, 1) := by decide +kernel
theorem dL_law_880 : decode cL_law 880 = .ok (.invokevirtual 115, 3) := by decide +kernel
theorem dL_law_883 : decode cL_law 883 = .ok (.if_icmp .eq 334, 3) := by decide +kernel
theorem dL_law_888 : decode cL_law 888 = .ok (.aload_n 1, 1) := by decide +kernel
theorem dL_law_889 : decode cL_law 889 = .ok (.aload_n 0, 1) := by decide +kernel
theorem dL_law_890 : decode cL_law 890 = .ok (.iload_n 3, 1) := by decide +kernel
theorem dL_law_891 : decode cL_law 891 = .ok (.iconst 1, 1) := by decide +kernel
theorem dL_law_892 : decode cL_law 892 = .ok (.iadd, 1) := by decide +kernel
theorem dL_law_893 : decode cL_law 893 = .ok (.iaload, 1) := by decide +kernel
theorem dL_law_894 : decode cL_law 894 = .ok (.aload_n 0, 1) := by decide +kernel
theorem dL_law_895 : decode cL_law 895 = .ok (.iload_n 3, 1) := by decide +kernel
theorem dL_law_896 : decode cL_law 896 = .ok (.iconst 2, 1) := by decide +kernel
theorem dL_law_897 : decode cL_law 897 = .ok (.iadd, 1) := by decide +kernel
theorem dL_law_898 : decode cL_law 898 = .ok (.iaload, 1) := by decide +kernel
theorem dL_law_899 : decode cL_law 899 = .ok (.invokevirtual 116, 3) := by decide +kernel
theorem dL_law_902 : decode cL_law 902 = .ok (.aload_n 2, 1) := by decide +kernel
theorem dL_law_903 : decode cL_law 903 = .ok (.aload_n 0, 1) := by decide +kernel
theorem dL_law_904 : decode cL_law 904 = .ok (.iload_n 3, 1) := by decide +kernel
theorem dL_law_905 : decode cL_law 905 = .ok (.iconst 1, 1) := by decide +kernel
theorem dL_law_906 : decode cL_law 906 = .ok (.iadd, 1) := by decide +kernel
theorem dL_law_907 : decode cL_law 907 = .ok (.iaload, 1) := by decide +kernel
theorem dL_law_908 : decode cL_law 908 = .ok (.aload_n 0, 1) := by decide +kernel
theorem dL_law_909 : decode cL_law 909 = .ok (.iload_n 3, 1) := by decide +kernel
theorem dL_law_910 : decode cL_law 910 = .ok (.iconst 2, 1) := by decide +kernel
theorem dL_law_911 : decode cL_law 911 = .ok (.iadd, 1) := by decide +kernel
theorem dL_law_912 : decode cL_law 912 = .ok (.iaload, 1) := by decide +kernel
theorem dL_law_913 : decode cL_law 913 = .ok (.invokevirtual 119, 3) := by decide +kernel
theorem dL_law_916 : decode cL_law 916 = .ok (.if_icmp .eq 301, 3) := by decide +kernel
theorem dL_law_921 : decode cL_law 921 = .ok (.aload_n 1, 1) := by decide +kernel
theorem dL_law_922 : decode cL_law 922 = .ok (.aload_n 0, 1) := by decide +kernel
theorem dL_law_923 : decode cL_law 923 = .ok (.iload_n 3, 1) := by decide +kernel
theorem dL_law_924 : decode cL_law 924 = .ok (.iconst 1, 1) := by decide +kernel
theorem dL_law_925 : decode cL_law 925 = .ok (.iadd, 1) := by decide +kernel
theorem dL_law_926 : decode cL_law 926 = .ok (.iaload, 1) := by decide +kernel
theorem dL_law_927 : decode cL_law 927 = .ok (.invokevirtual 120, 3) := by decide +kernel
theorem dL_law_930 : decode cL_law 930 = .ok (.aload_n 2, 1) := by decide +kernel
theorem dL_law_931 : decode cL_law 931 = .ok (.aload_n 0, 1) := by decide +kernel
theorem dL_law_932 : decode cL_law 932 = .ok (.iload_n 3, 1) := by decide +kernel
theorem dL_law_933 : decode cL_law 933 = .ok (.iconst 1, 1) := by decide +kernel
theorem dL_law_934 : decode cL_law 934 = .ok (.iadd, 1) := by decide +kernel
theorem dL_law_935 : decode cL_law 935 = .ok (.iaload, 1) := by decide +kernel
theorem dL_law_936 : decode cL_law 936 = .ok (.invokevirtual 123, 3) := by decide +kernel
theorem dL_law_939 : decode cL_law 939 = .ok (.if_icmp .eq 278, 3) := by decide +kernel
theorem dL_law_944 : decode cL_law 944 = .ok (.aload_n 1, 1) := by decide +kernel
theorem dL_law_945 : decode cL_law 945 = .ok (.aload_n 0, 1) := by decide +kernel
theorem dL_law_946 : decode cL_law 946 = .ok (.iload_n 3, 1) := by decide +kernel
theorem dL_law_947 : decode cL_law 947 = .ok (.iconst 1, 1) := by decide +kernel
theorem dL_law_948 : decode cL_law 948 = .ok (.iadd, 1) := by decide +kernel
theorem dL_law_949 : decode cL_law 949 = .ok (.iaload, 1) := by decide +kernel
theorem dL_law_950 : decode cL_law 950 = .ok (.invokevirtual 124, 3) := by decide +kernel
theorem dL_law_953 : decode cL_law 953 = .ok (.aload_n 2, 1) := by decide +kernel
theorem dL_law_954 : decode cL_law 954 = .ok (.aload_n 0, 1) := by decide +kernel
theorem dL_law_955 : decode cL_law 955 = .ok (.iload_n 3, 1) := by decide +kernel
theorem dL_law_956 : decode cL_law 956 = .ok (.iconst 1, 1) := by decide +kernel
theorem dL_law_957 : decode cL_law 957 = .ok (.iadd, 1) := by decide +kernel
theorem dL_law_958 : decode cL_law 958 = .ok (.iaload, 1) := by decide +kernel
theorem dL_law_959 : decode cL_law 959 = .ok (.invokevirtual 127, 3) := by decide +kernel
theorem dL_law_962 : decode cL_law 962 = .ok (.if_icmp .eq 255, 3) := by decide +kernel
theorem dL_law_967 : decode cL_law 967 = .ok (.aload_n 1, 1) := by decide +kernel
theorem dL_law_968 : decode cL_law 968 = .ok (.aload_n 0, 1) := by decide +kernel
theorem dL_law_969 : decode cL_law 969 = .ok (.iload_n 3, 1) := by decide +kernel
theorem dL_law_970 : decode cL_law 970 = .ok (.iconst 1, 1) := by decide +kernel
theorem dL_law_971 : decode cL_law 971 = .ok (.iadd, 1) := by decide +kernel
theorem dL_law_972 : decode cL_law 972 = .ok (.iaload, 1) := by decide +kernel
theorem dL_law_973 : decode cL_law 973 = .ok (.invokevirtual 128, 3) := by decide +kernel
theorem dL_law_976 : decode cL_law 976 = .ok (.aload_n 2, 1) := by decide +kernel
theorem dL_law_977 : decode cL_law 977 = .ok (.aload_n 0, 1) := by decide +kernel
theorem dL_law_978 : decode cL_law 978 = .ok (.iload_n 3, 1) := by decide +kernel
theorem dL_law_979 : decode cL_law 979 = .ok (.iconst 1, 1) := by decide +kernel
theorem dL_law_980 : decode cL_law 980 = .ok (.iadd, 1) := by decide +kernel
theorem dL_law_981 : decode cL_law 981 = .ok (.iaload, 1) := by decide +kernel
theorem dL_law_982 : decode cL_law 982 = .ok (.invokevirtual 131, 3) := by decide +kernel
theorem dL_law_985 : decode cL_law 985 = .ok (.if_icmp .eq 232, 3) := by decide +kernel
theorem dL_law_990 : decode cL_law 990 = .ok (.aload_n 1, 1) := by decide +kernel
theorem dL_law_991 : decode cL_law 991 = .ok (.aload_n 0, 1) := by decide +kernel
theorem dL_law_992 : decode cL_law 992 = .ok (.iload_n 3, 1) := by decide +kernel
theorem dL_law_993 : decode cL_law 993 = .ok (.iconst 1, 1) := by decide +kernel
theorem dL_law_994 : decode cL_law 994 = .ok (.iadd, 1) := by decide +kernel
theorem dL_law_995 : decode cL_law 995 = .ok (.iaload, 1) := by decide +kernel
theorem dL_law_996 : decode cL_law 996 = .ok (.aload_n 0, 1) := by decide +kernel
theorem dL_law_997 : decode cL_law 997 = .ok (.iload_n 3, 1) := by decide +kernel
theorem dL_law_998 : decode cL_law 998 = .ok (.iconst 2, 1) := by decide +kernel
theorem dL_law_999 : decode cL_law 999 = .ok (.iadd, 1) := by decide +kernel
theorem dL_law_1000 : decode cL_law 1000 = .ok (.iaload, 1) := by decide +kernel
theorem dL_law_1001 : decode cL_law 1001 = .ok (.invokevirtual 132, 3) := by decide +kernel
theorem dL_law_1004 : decode cL_law 1004 = .ok (.aload_n 2, 1) := by decide +kernel
theorem dL_law_1005 : decode cL_law 1005 = .ok (.aload_n 0, 1) := by decide +kernel
theorem dL_law_1006 : decode cL_law 1006 = .ok (.iload_n 3, 1) := by decide +kernel
theorem dL_law_1007 : decode cL_law 1007 = .ok (.iconst 1, 1) := by decide +kernel
theorem dL_law_1008 : decode cL_law 1008 = .ok (.iadd, 1) := by decide +kernel
theorem dL_law_1009 : decode cL_law 1009 = .ok (.iaload, 1) := by decide +kernel
theorem dL_law_1010 : decode cL_law 1010 = .ok (.aload_n 0, 1) := by decide +kernel
theorem dL_law_1011 : decode cL_law 1011 = .ok (.iload_n 3, 1) := by decide +kernel
theorem dL_law_1012 : decode cL_law 1012 = .ok (.iconst 2, 1) := by decide +kernel
theorem dL_law_1013 : decode cL_law 1013 = .ok (.iadd, 1) := by decide +kernel
theorem dL_law_1014 : decode cL_law 1014 = .ok (.iaload, 1) := by decide +kernel
theorem dL_law_1015 : decode cL_law 1015 = .ok (.invokevirtual 135, 3) := by decide +kernel
theorem dL_law_1018 : decode cL_law 1018 = .ok (.if_icmp .eq 199, 3) := by decide +kernel
theorem dL_law_1023 : decode cL_law 1023 = .ok (.aload_n 1, 1) := by decide +kernel
theorem dL_law_1024 : decode cL_law 1024 = .ok (.aload_n 0, 1) := by decide +kernel
theorem dL_law_1025 : decode cL_law 1025 = .ok (.iload_n 3, 1) := by decide +kernel
theorem dL_law_1026 : decode cL_law 1026 = .ok (.iconst 1, 1) := by decide +kernel
theorem dL_law_1027 : decode cL_law 1027 = .ok (.iadd, 1) := by decide +kernel
theorem dL_law_1028 : decode cL_law 1028 = .ok (.iaload, 1) := by decide +kernel
theorem dL_law_1029 : decode cL_law 1029 = .ok (.invokevirtual 136, 3) := by decide +kernel
theorem dL_law_1032 : decode cL_law 1032 = .ok (.aload_n 2, 1) := by decide +kernel
theorem dL_law_1033 : decode cL_law 1033 = .ok (.aload_n 0, 1) := by decide +kernel
theorem dL_law_1034 : decode cL_law 1034 = .ok (.iload_n 3, 1) := by decide +kernel
theorem dL_law_1035 : decode cL_law 1035 = .ok (.iconst 1, 1) := by decide +kernel
theorem dL_law_1036 : decode cL_law 1036 = .ok (.iadd, 1) := by decide +kernel
theorem dL_law_1037 : decode cL_law 1037 = .ok (.iaload, 1) := by decide +kernel
theorem dL_law_1038 : decode cL_law 1038 = .ok (.invokevirtual 139, 3) := by decide +kernel
theorem dL_law_1041 : decode cL_law 1041 = .ok (.if_icmp .eq 176, 3) := by decide +kernel
theorem dL_law_1046 : decode cL_law 1046 = .ok (.aload_n 1, 1) := by decide +kernel
theorem dL_law_1047 : decode cL_law 1047 = .ok (.aload_n 0, 1) := by decide +kernel
theorem dL_law_1048 : decode cL_law 1048 = .ok (.iload_n 3, 1) := by decide +kernel
theorem dL_law_1049 : decode cL_law 1049 = .ok (.iconst 1, 1) := by decide +kernel
theorem dL_law_1050 : decode cL_law 1050 = .ok (.iadd, 1) := by decide +kernel
theorem dL_law_1051 : decode cL_law 1051 = .ok (.iaload, 1) := by decide +kernel
theorem dL_law_1052 : decode cL_law 1052 = .ok (.aload_n 0, 1) := by decide +kernel
theorem dL_law_1053 : decode cL_law 1053 = .ok (.iload_n 3, 1) := by decide +kernel
theorem dL_law_1054 : decode cL_law 1054 = .ok (.iconst 2, 1) := by decide +kernel
theorem dL_law_1055 : decode cL_law 1055 = .ok (.iadd, 1) := by decide +kernel
theorem dL_law_1056 : decode cL_law 1056 = .ok (.iaload, 1) := by decide +kernel
theorem dL_law_1057 : decode cL_law 1057 = .ok (.invokevirtual 140, 3) := by decide +kernel
theorem dL_law_1060 : decode cL_law 1060 = .ok (.aload_n 2, 1) := by decide +kernel
theorem dL_law_1061 : decode cL_law 1061 = .ok (.aload_n 0, 1) := by decide +kernel
theorem dL_law_1062 : decode cL_law 1062 = .ok (.iload_n 3, 1) := by decide +kernel
theorem dL_law_1063 : decode cL_law 1063 = .ok (.iconst 1, 1) := by decide +kernel
theorem dL_law_1064 : decode cL_law 1064 = .ok (.iadd, 1) := by decide +kernel
theorem dL_law_1065 : decode cL_law 1065 = .ok (.iaload, 1) := by decide +kernel
theorem dL_law_1066 : decode cL_law 1066 = .ok (.aload_n 0, 1) := by decide +kernel
theorem dL_law_1067 : decode cL_law 1067 = .ok (.iload_n 3, 1) := by decide +kernel
theorem dL_law_1068 : decode cL_law 1068 = .ok (.iconst 2, 1) := by decide +kernel
theorem dL_law_1069 : decode cL_law 1069 = .ok (.iadd, 1) := by decide +kernel
theorem dL_law_1070 : decode cL_law 1070 = .ok (.iaload, 1) := by decide +kernel
theorem dL_law_1071 : decode cL_law 1071 = .ok (.invokevirtual 143, 3) := by decide +kernel
theorem dL_law_1074 : decode cL_law 1074 = .ok (.if_icmp .eq 143, 3) := by decide +kernel
theorem dL_law_1079 : decode cL_law 1079 = .ok (.aload_n 1, 1) := by decide +kernel
theorem dL_law_1080 : decode cL_law 1080 = .ok (.aload_n 0, 1) := by decide +kernel
theorem dL_law_1081 : decode cL_law 1081 = .ok (.iload_n 3, 1) := by decide +kernel
theorem dL_law_1082 : decode cL_law 1082 = .ok (.iconst 1, 1) := by decide +kernel
theorem dL_law_1083 : decode cL_law 1083 = .ok (.iadd, 1) := by decide +kernel
theorem dL_law_1084 : decode cL_law 1084 = .ok (.iaload, 1) := by decide +kernel
theorem dL_law_1085 : decode cL_law 1085 = .ok (.invokevirtual 144, 3) := by decide +kernel
theorem dL_law_1088 : decode cL_law 1088 = .ok (.aload_n 2, 1) := by decide +kernel
theorem dL_law_1089 : decode cL_law 1089 = .ok (.aload_n 0, 1) := by decide +kernel
theorem dL_law_1090 : decode cL_law 1090 = .ok (.iload_n 3, 1) := by decide +kernel
theorem dL_law_1091 : decode cL_law 1091 = .ok (.iconst 1, 1) := by decide +kernel
theorem dL_law_1092 : decode cL_law 1092 = .ok (.iadd, 1) := by decide +kernel
theorem dL_law_1093 : decode cL_law 1093 = .ok (.iaload, 1) := by decide +kernel
theorem dL_law_1094 : decode cL_law 1094 = .ok (.invokevirtual 147, 3) := by decide +kernel
theorem dL_law_1097 : decode cL_law 1097 = .ok (.if_icmp .eq 120, 3) := by decide +kernel
theorem dL_law_1102 : decode cL_law 1102 = .ok (.aload_n 1, 1) := by decide +kernel
theorem dL_law_1103 : decode cL_law 1103 = .ok (.aload_n 0, 1) := by decide +kernel
theorem dL_law_1104 : decode cL_law 1104 = .ok (.iload_n 3, 1) := by decide +kernel
theorem dL_law_1105 : decode cL_law 1105 = .ok (.iconst 1, 1) := by decide +kernel
theorem dL_law_1106 : decode cL_law 1106 = .ok (.iadd, 1) := by decide +kernel
theorem dL_law_1107 : decode cL_law 1107 = .ok (.iaload, 1) := by decide +kernel
theorem dL_law_1108 : decode cL_law 1108 = .ok (.invokevirtual 148, 3) := by decide +kernel
theorem dL_law_1111 : decode cL_law 1111 = .ok (.aload_n 2, 1) := by decide +kernel
theorem dL_law_1112 : decode cL_law 1112 = .ok (.aload_n 0, 1) := by decide +kernel
theorem dL_law_1113 : decode cL_law 1113 = .ok (.iload_n 3, 1) := by decide +kernel
theorem dL_law_1114 : decode cL_law 1114 = .ok (.iconst 1, 1) := by decide +kernel
theorem dL_law_1115 : decode cL_law 1115 = .ok (.iadd, 1) := by decide +kernel
theorem dL_law_1116 : decode cL_law 1116 = .ok (.iaload, 1) := by decide +kernel
theorem dL_law_1117 : decode cL_law 1117 = .ok (.invokevirtual 151, 3) := by decide +kernel
theorem dL_law_1120 : decode cL_law 1120 = .ok (.if_icmp .eq 97, 3) := by decide +kernel
theorem dL_law_1125 : decode cL_law 1125 = .ok (.aload_n 1, 1) := by decide +kernel
theorem dL_law_1126 : decode cL_law 1126 = .ok (.aload_n 0, 1) := by decide +kernel
theorem dL_law_1127 : decode cL_law 1127 = .ok (.iload_n 3, 1) := by decide +kernel
theorem dL_law_1128 : decode cL_law 1128 = .ok (.iconst 1, 1) := by decide +kernel
theorem dL_law_1129 : decode cL_law 1129 = .ok (.iadd, 1) := by decide +kernel
theorem dL_law_1130 : decode cL_law 1130 = .ok (.iaload, 1) := by decide +kernel
theorem dL_law_1131 : decode cL_law 1131 = .ok (.invokevirtual 152, 3) := by decide +kernel
theorem dL_law_1134 : decode cL_law 1134 = .ok (.aload_n 2, 1) := by decide +kernel
theorem dL_law_1135 : decode cL_law 1135 = .ok (.aload_n 0, 1) := by decide +kernel
theorem dL_law_1136 : decode cL_law 1136 = .ok (.iload_n 3, 1) := by decide +kernel
theorem dL_law_1137 : decode cL_law 1137 = .ok (.iconst 1, 1) := by decide +kernel
theorem dL_law_1138 : decode cL_law 1138 = .ok (.iadd, 1) := by decide +kernel
theorem dL_law_1139 : decode cL_law 1139 = .ok (.iaload, 1) := by decide +kernel
theorem dL_law_1140 : decode cL_law 1140 = .ok (.invokevirtual 155, 3) := by decide +kernel
theorem dL_law_1143 : decode cL_law 1143 = .ok (.if_icmp .eq 74, 3) := by decide +kernel
theorem dL_law_1148 : decode cL_law 1148 = .ok (.aload_n 1, 1) := by decide +kernel
theorem dL_law_1149 : decode cL_law 1149 = .ok (.aload_n 0, 1) := by decide +kernel
theorem dL_law_1150 : decode cL_law 1150 = .ok (.iload_n 3, 1) := by decide +kernel
theorem dL_law_1151 : decode cL_law 1151 = .ok (.iconst 1, 1) := by decide +kernel
theorem dL_law_1152 : decode cL_law 1152 = .ok (.iadd, 1) := by decide +kernel
theorem dL_law_1153 : decode cL_law 1153 = .ok (.iaload, 1) := by decide +kernel
theorem dL_law_1154 : decode cL_law 1154 = .ok (.invokevirtual 156, 3) := by decide +kernel
theorem dL_law_1157 : decode cL_law 1157 = .ok (.aload_n 2, 1) := by decide +kernel
theorem dL_law_1158 : decode cL_law 1158 = .ok (.aload_n 0, 1) := by decide +kernel
theorem dL_law_1159 : decode cL_law 1159 = .ok (.iload_n 3, 1) := by decide +kernel
theorem dL_law_1160 : decode cL_law 1160 = .ok (.iconst 1, 1) := by decide +kernel
theorem dL_law_1161 : decode cL_law 1161 = .ok (.iadd, 1) := by decide +kernel
theorem dL_law_1162 : decode cL_law 1162 = .ok (.iaload, 1) := by decide +kernel
theorem dL_law_1163 : decode cL_law 1163 = .ok (.invokevirtual 159, 3) := by decide +kernel
theorem dL_law_1166 : decode cL_law 1166 = .ok (.if_icmp .eq 51, 3) := by decide +kernel
theorem dL_law_1171 : decode cL_law 1171 = .ok (.aload_n 1, 1) := by decide +kernel
theorem dL_law_1172 : decode cL_law 1172 = .ok (.aload_n 0, 1) := by decide +kernel
theorem dL_law_1173 : decode cL_law 1173 = .ok (.iload_n 3, 1) := by decide +kernel
theorem dL_law_1174 : decode cL_law 1174 = .ok (.iconst 1, 1) := by decide +kernel
theorem dL_law_1175 : decode cL_law 1175 = .ok (.iadd, 1) := by decide +kernel
theorem dL_law_1176 : decode cL_law 1176 = .ok (.iaload, 1) := by decide +kernel
theorem dL_law_1177 : decode cL_law 1177 = .ok (.invokevirtual 160, 3) := by decide +kernel
theorem dL_law_1180 : decode cL_law 1180 = .ok (.aload_n 2, 1) := by decide +kernel
theorem dL_law_1181 : decode cL_law 1181 = .ok (.aload_n 0, 1) := by decide +kernel
theorem dL_law_1182 : decode cL_law 1182 = .ok (.iload_n 3, 1) := by decide +kernel
theorem dL_law_1183 : decode cL_law 1183 = .ok (.iconst 1, 1) := by decide +kernel
theorem dL_law_1184 : decode cL_law 1184 = .ok (.iadd, 1) := by decide +kernel
theorem dL_law_1185 : decode cL_law 1185 = .ok (.iaload, 1) := by decide +kernel
theorem dL_law_1186 : decode cL_law 1186 = .ok (.invokevirtual 163, 3) := by decide +kernel
theorem dL_law_1189 : decode cL_law 1189 = .ok (.if_icmp .eq 28, 3) := by decide +kernel
theorem dL_law_1194 : decode cL_law 1194 = .ok (.aload_n 1, 1) := by decide +kernel
theorem dL_law_1195 : decode cL_law 1195 = .ok (.aload_n 0, 1) := by decide +kernel
theorem dL_law_1196 : decode cL_law 1196 = .ok (.iload_n 3, 1) := by decide +kernel
theorem dL_law_1197 : decode cL_law 1197 = .ok (.iconst 1, 1) := by decide +kernel
theorem dL_law_1198 : decode cL_law 1198 = .ok (.iadd, 1) := by decide +kernel
theorem dL_law_1199 : decode cL_law 1199 = .ok (.iaload, 1) := by decide +kernel
theorem dL_law_1200 : decode cL_law 1200 = .ok (.invokevirtual 164, 3) := by decide +kernel
theorem dL_law_1203 : decode cL_law 1203 = .ok (.aload_n 2, 1) := by decide +kernel
theorem dL_law_1204 : decode cL_law 1204 = .ok (.aload_n 0, 1) := by decide +kernel
theorem dL_law_1205 : decode cL_law 1205 = .ok (.iload_n 3, 1) := by decide +kernel
theorem dL_law_1206 : decode cL_law 1206 = .ok (.iconst 1, 1) := by decide +kernel
theorem dL_law_1207 : decode cL_law 1207 = .ok (.iadd, 1) := by decide +kernel
theorem dL_law_1208 : decode cL_law 1208 = .ok (.iaload, 1) := by decide +kernel
theorem dL_law_1209 : decode cL_law 1209 = .ok (.invokevirtual 167, 3) := by decide +kernel
theorem dL_law_1212 : decode cL_law 1212 = .ok (.if_icmp .eq 5, 3) := by decide +kernel
theorem dL_law_1217 : decode cL_law 1217 = .ok (.iinc 3 6, 3) := by decide +kernel
theorem dL_law_1220 : decode cL_law 1220 = .ok (.goto (-1202), 3) := by decide +kernel
theorem dL_law_1223 : decode cL_law 1223 = .ok (.iconst 1, 1) := by decide +kernel
theorem dL_law_1224 : decode cL_law 1224 = .ok (.ireturn, 1) := by decide +kernel
set_option maxHeartbeats 40000000 in
set_option maxRecDepth 100000 in
/-- THE LAW, from its entry -/
theorem whole_start {p : Program} {e : Env} {s : State} {m : MethodId} {below : List Frame} {meth : Method} {c : Code} (l : Launch) {b L : Nat} {xs : Nat → Int32} (hL : L ≤ 6) (C0 : lw_At p s m meth c b L xs) : W p l e room_1 s m #[Value.ref b] below meth c s.heap [] 0 0 (lw_Z below #[Value.ref b] s) (entryFrame m ([Value.ref b] : List Value).toArray 4) := by
  obtain ⟨g, aV, fb, hK, hX⟩ := law_env C0
  obtain ⟨hx, hb, hr, hml, hown, hts, hXs, hbl, hlocks, hgv⟩ := id C0
  have hT : ∀ w ∈ gT, w.before #[Value.ref b] s = true := fun w h => hts w (List.mem_filter.mp h).1
  have hown : s.vm.findClass RL = some m.cls := hown
  generalize hAe : (fun q : Nat => s.heap.size ≤ q) = A at hX
  have hAe := hAe.symm
  have hA : ∀ q : Nat, s.heap.size ≤ q → A q := by rw [hAe]; exact fun _ h => h
  have hbA : ¬ A b := by rw [hAe]; exact Nat.not_le.mpr hbl
  have hS : va_S A s.heap s.heap [] := va_S.rf
  have hl := lv_entry ([.ref b]) (n := 4) (Nat.le_of_ble_eq_true rfl)
  rw [lg_entry_eq]
  generalize (lg_sl ([.ref b]) ++ List.replicate (4 - (lg_sl ([.ref b])).length) Slot.unset).toArray = ls at hl ⊢
  have hl : lv_has ls 4 [(0, .ref b)] := hl
  refine p_nH (fun H hH => ?_)
  have hS : va_S A s.heap H [] := by rw [hH]; exact hS
  have hP : va_P g.1 vwCl [] H := fun k q h => by simp at h
  have hD : va_D A [] := ⟨fun i j p q h => by simp at h, fun k q h => by simp at h⟩
  refine va_new (D := g.1) (ci := 11) (fs := [.null, .int 0, .null, .null, .null, .null, .int 0, .int 0, .null, .int 0, .null, .null, .null, .null]) (C := RX11) (T := TX11) (N := 14) hx hb hT inF_X11 tyX11 tyX11_ok hown (hT _ bw_534) (hT _ bw_531) (hT _ bw_207) hK.1 hP hD hS hA rfl (by decide +kernel) (by decide) (by decide) dL_law_0 (fun q_1 H hP hD hS => ?_)
  have hP : va_P g.1 vwCl [(q_1, .inr (11, [.null, .int 0, .null, .null, .null, .null, .int 0, .int 0, .null, .int 0, .null, .null, .null, .null]))] H := hP
  have hD : va_D A [(q_1, .inr (11, [.null, .int 0, .null, .null, .null, .null, .int 0, .int 0, .null, .int 0, .null, .null, .null, .null]))] := hD
  refine W.widen (k := 1) (n := 14) (by decide) (by decide) ?_
  refine lv_dup hx hb dL_law_3 rfl ?_
  refine k_v (wr := []) (k_I (n := 0) ⟨hx, hb, hml, hown, hT⟩ hK hP hD [0] rfl (by decide) (c_X11_init l g H.size q_1 aV fb) (gI bw_530) bw_535 bw_536 bw_537 rfl rfl rfl (by decide +kernel) ⟨by decide, by decide⟩ sX.calling (hX.go hS (va_free (wc := [(q_1, .inr (11, [.null, .int 0, .null, .null, .null, .null, .int 0, .int 0, .null, .int 0, .null, .null, .null, .null]))]) hD hS hA [0] rfl)) rfl rfl hl.1 (Nat.le_of_ble_eq_true rfl) dL_law_4 ⟨by decide, by decide⟩) hP hD hS hA [0] [] rfl rfl (by decide) (by decide) (fun u H locs hw hP hD hS => ?_)
  obtain ⟨q_2, q_3, q_4, q_5, q_6, q_7, q_8, q_9, q_10, q_11, q_12, q_13, q_14, q_15, q_16, q_17, q_18, q_19, q_20, q_21, q_22, q_23, q_24, q_25, q_26, q_27, q_28, q_29, q_30, q_31, q_32, q_33, q_34, q_35, q_36, q_37, q_38, q_39, q_40, q_41, q_42, q_43, q_44, q_45, q_46, q_47, q_48, q_49, q_50, q_51, q_52, q_53, q_54, q_55, q_56, q_57, f_58, q_59, q_60, q_61, q_62, q_63, q_64, q_65, q_66, q_67, q_68, q_69, q_70, q_71, q_72, q_73, q_74, q_75, q_76, q_77, q_78, q_79, q_80, q_81, q_82, q_83, q_84, q_85, q_86, q_87, q_88, q_89, q_90, q_91, q_92, q_93, q_94, q_95, q_96, q_97, q_98, q_99, q_100, q_101⟩ := u
  have hP : va_P g.1 vwCl [(q_1, .inr (11, [.ref q_2, .int 0, .ref q_3, .ref q_4, .ref q_5, .ref q_6, .int 0, .int 0, .ref q_7, .int 0, .ref q_8, .ref q_9, .ref q_10, .ref q_11])), (q_2, aB g 1600 z0), (q_3, .inr (5, [.int 0, .int (-1), .ref q_12, .null, .int 0, .int 0, .int 0])), (q_12, .inr (10, [.int 0, .int 0, .int 0, .long 0, .null, .int 0, .int 0, .ref q_13])), (q_4, .inr (2, [.ref q_14, .ref q_15, .ref q_16, .int 0, .ref q_17, .ref q_18, .int 9, .int 0, .ref q_19])), (q_14, .inr (3, [.int 0, .ref q_20, .ref q_21, .ref q_22, .ref q_23])), (q_15, .inr (0, [.int 0, .int 0, .ref q_24, .int 0, .int 0, .ref q_25, .ref q_26, .ref q_27])), (q_16, .inr (6, [.int 0, .ref q_28, .ref q_29, .ref q_30, .ref q_31, .ref q_32, .ref q_33, .ref q_34])), (q_5, .inr (2, [.ref q_35, .ref q_36, .ref q_37, .int 0, .ref q_38, .ref q_39, .int 9, .int 0, .ref q_40])), (q_35, .inr (3, [.int 0, .ref q_41, .ref q_42, .ref q_43, .ref q_44])), (q_43, aI g 6 z0), (q_36, .inr (0, [.int 0, .int 0, .ref q_45, .int 0, .int 0, .ref q_46, .ref q_47, .ref q_48])), (q_37, .inr (6, [.int 0, .ref q_49, .ref q_50, .ref q_51, .ref q_52, .ref q_53, .ref q_54, .ref q_55])), (q_40, aI g 4 z0), (q_6, aO g 41 (va_up (va_up f_58 0 (some q_57)) 1 (some q_56))), (q_57, .inr (9, [.int 0, .int 0, .int 0, .int 0, .int 0, .int 0, .int 0, .ref q_59, .ref q_60, .ref q_61, .ref q_62, .ref q_63, .ref q_64, .ref q_65])), (q_59, aI g 6 z0), (q_60, aI g 6 z0), (q_61, aI g 8 z0), (q_62, aI g 8 z0), (q_63, aI g 8 z0), (q_64, aI g 16 z0), (q_65, aI g 60 z0), (q_56, .inr (9, [.int 0, .int 0, .int 0, .int 0, .int 0, .int 0, .int 0, .ref q_66, .ref q_67, .ref q_68, .ref q_69, .ref q_70, .ref q_71, .ref q_72])), (q_66, aI g 6 z0), (q_67, aI g 6 z0), (q_68, aI g 8 z0), (q_69, aI g 8 z0), (q_70, aI g 8 z0), (q_71, aI g 16 z0), (q_72, aI g 60 z0), (q_7, aO g 3 (va_up (va_up (va_up zR 0 (some q_75)) 1 (some q_74)) 2 (some q_73))), (q_75, .inr (9, [.int 0, .int 0, .int 0, .int 0, .int 0, .int 0, .int 0, .ref q_76, .ref q_77, .ref q_78, .ref q_79, .ref q_80, .ref q_81, .ref q_82])), (q_76, aI g 6 z0), (q_77, aI g 6 z0), (q_78, aI g 8 z0), (q_79, aI g 8 z0), (q_80, aI g 8 z0), (q_81, aI g 16 z0), (q_82, aI g 60 z0), (q_74, .inr (9, [.int 0, .int 0, .int 0, .int 0, .int 0, .int 0, .int 0, .ref q_83, .ref q_84, .ref q_85, .ref q_86, .ref q_87, .ref q_88, .ref q_89])), (q_83, aI g 6 z0), (q_84, aI g 6 z0), (q_85, aI g 8 z0), (q_86, aI g 8 z0), (q_87, aI g 8 z0), (q_88, aI g 16 z0), (q_89, aI g 60 z0), (q_73, .inr (9, [.int 0, .int 0, .int 0, .int 0, .int 0, .int 0, .int 0, .ref q_90, .ref q_91, .ref q_92, .ref q_93, .ref q_94, .ref q_95, .ref q_96])), (q_90, aI g 6 z0), (q_91, aI g 6 z0), (q_92, aI g 8 z0), (q_93, aI g 8 z0), (q_94, aI g 8 z0), (q_95, aI g 16 z0), (q_96, aI g 60 z0), (q_9, .inr (8, [.int 0, .int 0, .ref q_97, .ref q_98, .ref q_99, .ref q_100])), (q_11, .inr (1, [.int 0, .ref q_101]))] H := hP
  have hD : va_D A [(q_1, .inr (11, [.ref q_2, .int 0, .ref q_3, .ref q_4, .ref q_5, .ref q_6, .int 0, .int 0, .ref q_7, .int 0, .ref q_8, .ref q_9, .ref q_10, .ref q_11])), (q_2, aB g 1600 z0), (q_3, .inr (5, [.int 0, .int (-1), .ref q_12, .null, .int 0, .int 0, .int 0])), (q_12, .inr (10, [.int 0, .int 0, .int 0, .long 0, .null, .int 0, .int 0, .ref q_13])), (q_4, .inr (2, [.ref q_14, .ref q_15, .ref q_16, .int 0, .ref q_17, .ref q_18, .int 9, .int 0, .ref q_19])), (q_14, .inr (3, [.int 0, .ref q_20, .ref q_21, .ref q_22, .ref q_23])), (q_15, .inr (0, [.int 0, .int 0, .ref q_24, .int 0, .int 0, .ref q_25, .ref q_26, .ref q_27])), (q_16, .inr (6, [.int 0, .ref q_28, .ref q_29, .ref q_30, .ref q_31, .ref q_32, .ref q_33, .ref q_34])), (q_5, .inr (2, [.ref q_35, .ref q_36, .ref q_37, .int 0, .ref q_38, .ref q_39, .int 9, .int 0, .ref q_40])), (q_35, .inr (3, [.int 0, .ref q_41, .ref q_42, .ref q_43, .ref q_44])), (q_43, aI g 6 z0), (q_36, .inr (0, [.int 0, .int 0, .ref q_45, .int 0, .int 0, .ref q_46, .ref q_47, .ref q_48])), (q_37, .inr (6, [.int 0, .ref q_49, .ref q_50, .ref q_51, .ref q_52, .ref q_53, .ref q_54, .ref q_55])), (q_40, aI g 4 z0), (q_6, aO g 41 (va_up (va_up f_58 0 (some q_57)) 1 (some q_56))), (q_57, .inr (9, [.int 0, .int 0, .int 0, .int 0, .int 0, .int 0, .int 0, .ref q_59, .ref q_60, .ref q_61, .ref q_62, .ref q_63, .ref q_64, .ref q_65])), (q_59, aI g 6 z0), (q_60, aI g 6 z0), (q_61, aI g 8 z0), (q_62, aI g 8 z0), (q_63, aI g 8 z0), (q_64, aI g 16 z0), (q_65, aI g 60 z0), (q_56, .inr (9, [.int 0, .int 0, .int 0, .int 0, .int 0, .int 0, .int 0, .ref q_66, .ref q_67, .ref q_68, .ref q_69, .ref q_70, .ref q_71, .ref q_72])), (q_66, aI g 6 z0), (q_67, aI g 6 z0), (q_68, aI g 8 z0), (q_69, aI g 8 z0), (q_70, aI g 8 z0), (q_71, aI g 16 z0), (q_72, aI g 60 z0), (q_7, aO g 3 (va_up (va_up (va_up zR 0 (some q_75)) 1 (some q_74)) 2 (some q_73))), (q_75, .inr (9, [.int 0, .int 0, .int 0, .int 0, .int 0, .int 0, .int 0, .ref q_76, .ref q_77, .ref q_78, .ref q_79, .ref q_80, .ref q_81, .ref q_82])), (q_76, aI g 6 z0), (q_77, aI g 6 z0), (q_78, aI g 8 z0), (q_79, aI g 8 z0), (q_80, aI g 8 z0), (q_81, aI g 16 z0), (q_82, aI g 60 z0), (q_74, .inr (9, [.int 0, .int 0, .int 0, .int 0, .int 0, .int 0, .int 0, .ref q_83, .ref q_84, .ref q_85, .ref q_86, .ref q_87, .ref q_88, .ref q_89])), (q_83, aI g 6 z0), (q_84, aI g 6 z0), (q_85, aI g 8 z0), (q_86, aI g 8 z0), (q_87, aI g 8 z0), (q_88, aI g 16 z0), (q_89, aI g 60 z0), (q_73, .inr (9, [.int 0, .int 0, .int 0, .int 0, .int 0, .int 0, .int 0, .ref q_90, .ref q_91, .ref q_92, .ref q_93, .ref q_94, .ref q_95, .ref q_96])), (q_90, aI g 6 z0), (q_91, aI g 6 z0), (q_92, aI g 8 z0), (q_93, aI g 8 z0), (q_94, aI g 8 z0), (q_95, aI g 16 z0), (q_96, aI g 60 z0), (q_9, .inr (8, [.int 0, .int 0, .ref q_97, .ref q_98, .ref q_99, .ref q_100])), (q_11, .inr (1, [.int 0, .ref q_101]))] := hD
  refine W.widen (k := 422) (n := 26407) (by decide) (by decide) ?_
  refine lv_astore_n (lv' := [(1, .ref q_1), (0, .ref b)]) hx hb dL_law_7 rfl hl (by decide) rfl (fun ls hl => ?_)
  refine va_new (D := g.1) (ci := 12) (fs := [.null, .null, .int 0, .int 0, .int 0, .int 0, .int 0, .int 0, .int 0, .int 0, .long 0, .null, .null, .null, .null, .null, .null, .null, .null, .null, .null, .null, .null, .null, .null, .null, .null, .null, .null, .null, .null, .null, .null, .null, .null, .null, .null, .null, .null, .null, .null, .null, .null, .int 0, .int 0, .int 0, .int 0, .int 0, .int 0, .int 0, .int 0, .int 0, .null, .null, .int 0, .int 0, .null, .null, .null, .null, .null, .null, .null, .null, .null, .null, .int 0, .int 0, .int 0, .int 0, .int 0, .int 0, .int 0, .int 0, .int 0, .int 0, .int 0, .int 0, .null, .null, .null, .null, .null, .int 0, .int 0, .null, .null]) (C := RX12) (T := TX12) (N := 87) hx hb hT inF_X12 tyX12 tyX12_ok hown (hT _ bw_538) (hT _ bw_532) (hT _ bw_233) hK.1 hP hD hS hA rfl (by decide +kernel) (by decide) (by decide) dL_law_8 (fun q_102 H hP hD hS => ?_)
  have hP : va_P g.1 vwCl [(q_1, .inr (11, [.ref q_2, .int 0, .ref q_3, .ref q_4, .ref q_5, .ref q_6, .int 0, .int 0, .ref q_7, .int 0, .ref q_8, .ref q_9, .ref q_10, .ref q_11])), (q_2, aB g 1600 z0), (q_3, .inr (5, [.int 0, .int (-1), .ref q_12, .null, .int 0, .int 0, .int 0])), (q_12, .inr (10, [.int 0, .int 0, .int 0, .long 0, .null, .int 0, .int 0, .ref q_13])), (q_4, .inr (2, [.ref q_14, .ref q_15, .ref q_16, .int 0, .ref q_17, .ref q_18, .int 9, .int 0, .ref q_19])), (q_14, .inr (3, [.int 0, .ref q_20, .ref q_21, .ref q_22, .ref q_23])), (q_15, .inr (0, [.int 0, .int 0, .ref q_24, .int 0, .int 0, .ref q_25, .ref q_26, .ref q_27])), (q_16, .inr (6, [.int 0, .ref q_28, .ref q_29, .ref q_30, .ref q_31, .ref q_32, .ref q_33, .ref q_34])), (q_5, .inr (2, [.ref q_35, .ref q_36, .ref q_37, .int 0, .ref q_38, .ref q_39, .int 9, .int 0, .ref q_40])), (q_35, .inr (3, [.int 0, .ref q_41, .ref q_42, .ref q_43, .ref q_44])), (q_43, aI g 6 z0), (q_36, .inr (0, [.int 0, .int 0, .ref q_45, .int 0, .int 0, .ref q_46, .ref q_47, .ref q_48])), (q_37, .inr (6, [.int 0, .ref q_49, .ref q_50, .ref q_51, .ref q_52, .ref q_53, .ref q_54, .ref q_55])), (q_40, aI g 4 z0), (q_6, aO g 41 (va_up (va_up f_58 0 (some q_57)) 1 (some q_56))), (q_57, .inr (9, [.int 0, .int 0, .int 0, .int 0, .int 0, .int 0, .int 0, .ref q_59, .ref q_60, .ref q_61, .ref q_62, .ref q_63, .ref q_64, .ref q_65])), (q_59, aI g 6 z0), (q_60, aI g 6 z0), (q_61, aI g 8 z0), (q_62, aI g 8 z0), (q_63, aI g 8 z0), (q_64, aI g 16 z0), (q_65, aI g 60 z0), (q_56, .inr (9, [.int 0, .int 0, .int 0, .int 0, .int 0, .int 0, .int 0, .ref q_66, .ref q_67, .ref q_68, .ref q_69, .ref q_70, .ref q_71, .ref q_72])), (q_66, aI g 6 z0), (q_67, aI g 6 z0), (q_68, aI g 8 z0), (q_69, aI g 8 z0), (q_70, aI g 8 z0), (q_71, aI g 16 z0), (q_72, aI g 60 z0), (q_7, aO g 3 (va_up (va_up (va_up zR 0 (some q_75)) 1 (some q_74)) 2 (some q_73))), (q_75, .inr (9, [.int 0, .int 0, .int 0, .int 0, .int 0, .int 0, .int 0, .ref q_76, .ref q_77, .ref q_78, .ref q_79, .ref q_80, .ref q_81, .ref q_82])), (q_76, aI g 6 z0), (q_77, aI g 6 z0), (q_78, aI g 8 z0), (q_79, aI g 8 z0), (q_80, aI g 8 z0), (q_81, aI g 16 z0), (q_82, aI g 60 z0), (q_74, .inr (9, [.int 0, .int 0, .int 0, .int 0, .int 0, .int 0, .int 0, .ref q_83, .ref q_84, .ref q_85, .ref q_86, .ref q_87, .ref q_88, .ref q_89])), (q_83, aI g 6 z0), (q_84, aI g 6 z0), (q_85, aI g 8 z0), (q_86, aI g 8 z0), (q_87, aI g 8 z0), (q_88, aI g 16 z0), (q_89, aI g 60 z0), (q_73, .inr (9, [.int 0, .int 0, .int 0, .int 0, .int 0, .int 0, .int 0, .ref q_90, .ref q_91, .ref q_92, .ref q_93, .ref q_94, .ref q_95, .ref q_96])), (q_90, aI g 6 z0), (q_91, aI g 6 z0), (q_92, aI g 8 z0), (q_93, aI g 8 z0), (q_94, aI g 8 z0), (q_95, aI g 16 z0), (q_96, aI g 60 z0), (q_9, .inr (8, [.int 0, .int 0, .ref q_97, .ref q_98, .ref q_99, .ref q_100])), (q_11, .inr (1, [.int 0, .ref q_101])), (q_102, .inr (12, [.null, .null, .int 0, .int 0, .int 0, .int 0, .int 0, .int 0, .int 0, .int 0, .long 0, .null, .null, .null, .null, .null, .null, .null, .null, .null, .null, .null, .null, .null, .null, .null, .null, .null, .null, .null, .null, .null, .null, .null, .null, .null, .null, .null, .null, .null, .null, .null, .null, .int 0, .int 0, .int 0, .int 0, .int 0, .int 0, .int 0, .int 0, .int 0, .null, .null, .int 0, .int 0, .null, .null, .null, .null, .null, .null, .null, .null, .null, .null, .int 0, .int 0, .int 0, .int 0, .int 0, .int 0, .int 0, .int 0, .int 0, .int 0, .int 0, .int 0, .null, .null, .null, .null, .null, .int 0, .int 0, .null, .null]))] H := hP
  have hD : va_D A [(q_1, .inr (11, [.ref q_2, .int 0, .ref q_3, .ref q_4, .ref q_5, .ref q_6, .int 0, .int 0, .ref q_7, .int 0, .ref q_8, .ref q_9, .ref q_10, .ref q_11])), (q_2, aB g 1600 z0), (q_3, .inr (5, [.int 0, .int (-1), .ref q_12, .null, .int 0, .int 0, .int 0])), (q_12, .inr (10, [.int 0, .int 0, .int 0, .long 0, .null, .int 0, .int 0, .ref q_13])), (q_4, .inr (2, [.ref q_14, .ref q_15, .ref q_16, .int 0, .ref q_17, .ref q_18, .int 9, .int 0, .ref q_19])), (q_14, .inr (3, [.int 0, .ref q_20, .ref q_21, .ref q_22, .ref q_23])), (q_15, .inr (0, [.int 0, .int 0, .ref q_24, .int 0, .int 0, .ref q_25, .ref q_26, .ref q_27])), (q_16, .inr (6, [.int 0, .ref q_28, .ref q_29, .ref q_30, .ref q_31, .ref q_32, .ref q_33, .ref q_34])), (q_5, .inr (2, [.ref q_35, .ref q_36, .ref q_37, .int 0, .ref q_38, .ref q_39, .int 9, .int 0, .ref q_40])), (q_35, .inr (3, [.int 0, .ref q_41, .ref q_42, .ref q_43, .ref q_44])), (q_43, aI g 6 z0), (q_36, .inr (0, [.int 0, .int 0, .ref q_45, .int 0, .int 0, .ref q_46, .ref q_47, .ref q_48])), (q_37, .inr (6, [.int 0, .ref q_49, .ref q_50, .ref q_51, .ref q_52, .ref q_53, .ref q_54, .ref q_55])), (q_40, aI g 4 z0), (q_6, aO g 41 (va_up (va_up f_58 0 (some q_57)) 1 (some q_56))), (q_57, .inr (9, [.int 0, .int 0, .int 0, .int 0, .int 0, .int 0, .int 0, .ref q_59, .ref q_60, .ref q_61, .ref q_62, .ref q_63, .ref q_64, .ref q_65])), (q_59, aI g 6 z0), (q_60, aI g 6 z0), (q_61, aI g 8 z0), (q_62, aI g 8 z0), (q_63, aI g 8 z0), (q_64, aI g 16 z0), (q_65, aI g 60 z0), (q_56, .inr (9, [.int 0, .int 0, .int 0, .int 0, .int 0, .int 0, .int 0, .ref q_66, .ref q_67, .ref q_68, .ref q_69, .ref q_70, .ref q_71, .ref q_72])), (q_66, aI g 6 z0), (q_67, aI g 6 z0), (q_68, aI g 8 z0), (q_69, aI g 8 z0), (q_70, aI g 8 z0), (q_71, aI g 16 z0), (q_72, aI g 60 z0), (q_7, aO g 3 (va_up (va_up (va_up zR 0 (some q_75)) 1 (some q_74)) 2 (some q_73))), (q_75, .inr (9, [.int 0, .int 0, .int 0, .int 0, .int 0, .int 0, .int 0, .ref q_76, .ref q_77, .ref q_78, .ref q_79, .ref q_80, .ref q_81, .ref q_82])), (q_76, aI g 6 z0), (q_77, aI g 6 z0), (q_78, aI g 8 z0), (q_79, aI g 8 z0), (q_80, aI g 8 z0), (q_81, aI g 16 z0), (q_82, aI g 60 z0), (q_74, .inr (9, [.int 0, .int 0, .int 0, .int 0, .int 0, .int 0, .int 0, .ref q_83, .ref q_84, .ref q_85, .ref q_86, .ref q_87, .ref q_88, .ref q_89])), (q_83, aI g 6 z0), (q_84, aI g 6 z0), (q_85, aI g 8 z0), (q_86, aI g 8 z0), (q_87, aI g 8 z0), (q_88, aI g 16 z0), (q_89, aI g 60 z0), (q_73, .inr (9, [.int 0, .int 0, .int 0, .int 0, .int 0, .int 0, .int 0, .ref q_90, .ref q_91, .ref q_92, .ref q_93, .ref q_94, .ref q_95, .ref q_96])), (q_90, aI g 6 z0), (q_91, aI g 6 z0), (q_92, aI g 8 z0), (q_93, aI g 8 z0), (q_94, aI g 8 z0), (q_95, aI g 16 z0), (q_96, aI g 60 z0), (q_9, .inr (8, [.int 0, .int 0, .ref q_97, .ref q_98, .ref q_99, .ref q_100])), (q_11, .inr (1, [.int 0, .ref q_101])), (q_102, .inr (12, [.null, .null, .int 0, .int 0, .int 0, .int 0, .int 0, .int 0, .int 0, .int 0, .long 0, .null, .null, .null, .null, .null, .null, .null, .null, .null, .null, .null, .null, .null, .null, .null, .null, .null, .null, .null, .null, .null, .null, .null, .null, .null, .null, .null, .null, .null, .null, .null, .null, .int 0, .int 0, .int 0, .int 0, .int 0, .int 0, .int 0, .int 0, .int 0, .null, .null, .int 0, .int 0, .null, .null, .null, .null, .null, .null, .null, .null, .null, .null, .int 0, .int 0, .int 0, .int 0, .int 0, .int 0, .int 0, .int 0, .int 0, .int 0, .int 0, .int 0, .null, .null, .null, .null, .null, .int 0, .int 0, .null, .null]))] := hD
  refine W.widen (k := 423) (n := 26494) (by decide) (by decide) ?_
  refine lv_dup hx hb dL_law_11 rfl ?_
  refine k_v (wr := [(q_1, .inr (11, [.ref q_2, .int 0, .ref q_3, .ref q_4, .ref q_5, .ref q_6, .int 0, .int 0, .ref q_7, .int 0, .ref q_8, .ref q_9, .ref q_10, .ref q_11])), (q_2, aB g 1600 z0), (q_3, .inr (5, [.int 0, .int (-1), .ref q_12, .null, .int 0, .int 0, .int 0])), (q_12, .inr (10, [.int 0, .int 0, .int 0, .long 0, .null, .int 0, .int 0, .ref q_13])), (q_4, .inr (2, [.ref q_14, .ref q_15, .ref q_16, .int 0, .ref q_17, .ref q_18, .int 9, .int 0, .ref q_19])), (q_14, .inr (3, [.int 0, .ref q_20, .ref q_21, .ref q_22, .ref q_23])), (q_15, .inr (0, [.int 0, .int 0, .ref q_24, .int 0, .int 0, .ref q_25, .ref q_26, .ref q_27])), (q_16, .inr (6, [.int 0, .ref q_28, .ref q_29, .ref q_30, .ref q_31, .ref q_32, .ref q_33, .ref q_34])), (q_5, .inr (2, [.ref q_35, .ref q_36, .ref q_37, .int 0, .ref q_38, .ref q_39, .int 9, .int 0, .ref q_40])), (q_35, .inr (3, [.int 0, .ref q_41, .ref q_42, .ref q_43, .ref q_44])), (q_43, aI g 6 z0), (q_36, .inr (0, [.int 0, .int 0, .ref q_45, .int 0, .int 0, .ref q_46, .ref q_47, .ref q_48])), (q_37, .inr (6, [.int 0, .ref q_49, .ref q_50, .ref q_51, .ref q_52, .ref q_53, .ref q_54, .ref q_55])), (q_40, aI g 4 z0), (q_6, aO g 41 (va_up (va_up f_58 0 (some q_57)) 1 (some q_56))), (q_57, .inr (9, [.int 0, .int 0, .int 0, .int 0, .int 0, .int 0, .int 0, .ref q_59, .ref q_60, .ref q_61, .ref q_62, .ref q_63, .ref q_64, .ref q_65])), (q_59, aI g 6 z0), (q_60, aI g 6 z0), (q_61, aI g 8 z0), (q_62, aI g 8 z0), (q_63, aI g 8 z0), (q_64, aI g 16 z0), (q_65, aI g 60 z0), (q_56, .inr (9, [.int 0, .int 0, .int 0, .int 0, .int 0, .int 0, .int 0, .ref q_66, .ref q_67, .ref q_68, .ref q_69, .ref q_70, .ref q_71, .ref q_72])), (q_66, aI g 6 z0), (q_67, aI g 6 z0), (q_68, aI g 8 z0), (q_69, aI g 8 z0), (q_70, aI g 8 z0), (q_71, aI g 16 z0), (q_72, aI g 60 z0), (q_7, aO g 3 (va_up (va_up (va_up zR 0 (some q_75)) 1 (some q_74)) 2 (some q_73))), (q_75, .inr (9, [.int 0, .int 0, .int 0, .int 0, .int 0, .int 0, .int 0, .ref q_76, .ref q_77, .ref q_78, .ref q_79, .ref q_80, .ref q_81, .ref q_82])), (q_76, aI g 6 z0), (q_77, aI g 6 z0), (q_78, aI g 8 z0), (q_79, aI g 8 z0), (q_80, aI g 8 z0), (q_81, aI g 16 z0), (q_82, aI g 60 z0), (q_74, .inr (9, [.int 0, .int 0, .int 0, .int 0, .int 0, .int 0, .int 0, .ref q_83, .ref q_84, .ref q_85, .ref q_86, .ref q_87, .ref q_88, .ref q_89])), (q_83, aI g 6 z0), (q_84, aI g 6 z0), (q_85, aI g 8 z0), (q_86, aI g 8 z0), (q_87, aI g 8 z0), (q_88, aI g 16 z0), (q_89, aI g 60 z0), (q_73, .inr (9, [.int 0, .int 0, .int 0, .int 0, .int 0, .int 0, .int 0, .ref q_90, .ref q_91, .ref q_92, .ref q_93, .ref q_94, .ref q_95, .ref q_96])), (q_90, aI g 6 z0), (q_91, aI g 6 z0), (q_92, aI g 8 z0), (q_93, aI g 8 z0), (q_94, aI g 8 z0), (q_95, aI g 16 z0), (q_96, aI g 60 z0), (q_9, .inr (8, [.int 0, .int 0, .ref q_97, .ref q_98, .ref q_99, .ref q_100])), (q_11, .inr (1, [.int 0, .ref q_101]))]) (k_I (n := 0) ⟨hx, hb, hml, hown, hT⟩ hK hP hD [58] rfl (by decide) (c_X12_init l g H.size q_102) (gI bw_496) bw_539 bw_540 bw_541 rfl rfl rfl (by decide +kernel) ⟨by decide, by decide⟩ (fun _ _ _ _ _ => trivial) (fun _ _ _ => trivial) rfl rfl hl.1 (Nat.le_of_ble_eq_true rfl) dL_law_12 ⟨by decide, by decide⟩) hP hD hS hA [58] [0, 1, 2, 3, 4, 5, 6, 7, 8, 9, 10, 11, 12, 13, 14, 15, 16, 17, 18, 19, 20, 21, 22, 23, 24, 25, 26, 27, 28, 29, 30, 31, 32, 33, 34, 35, 36, 37, 38, 39, 40, 41, 42, 43, 44, 45, 46, 47, 48, 49, 50, 51, 52, 53, 54, 55, 56, 57] rfl rfl (by decide) (by decide) (fun u H locs hw hP hD hS => ?_)
  obtain ⟨q_103, q_104, q_105, q_106, q_107, q_108, q_109, q_110, q_111, q_112, q_113, q_114, q_115, q_116, q_117, q_118, q_119, q_120, q_121, q_122, q_123, q_124, q_125, q_126, q_127, q_128, q_129, q_130, q_131, q_132, q_133, q_134, q_135, q_136, q_137, q_138, q_139, q_140, q_141, q_142, q_143, q_144, q_145, q_146, q_147, q_148, q_149, q_150, q_151, q_152, q_153, q_154, q_155⟩ := u
  have hP : va_P g.1 vwCl [(q_1, .inr (11, [.ref q_2, .int 0, .ref q_3, .ref q_4, .ref q_5, .ref q_6, .int 0, .int 0, .ref q_7, .int 0, .ref q_8, .ref q_9, .ref q_10, .ref q_11])), (q_2, aB g 1600 z0), (q_3, .inr (5, [.int 0, .int (-1), .ref q_12, .null, .int 0, .int 0, .int 0])), (q_12, .inr (10, [.int 0, .int 0, .int 0, .long 0, .null, .int 0, .int 0, .ref q_13])), (q_4, .inr (2, [.ref q_14, .ref q_15, .ref q_16, .int 0, .ref q_17, .ref q_18, .int 9, .int 0, .ref q_19])), (q_14, .inr (3, [.int 0, .ref q_20, .ref q_21, .ref q_22, .ref q_23])), (q_15, .inr (0, [.int 0, .int 0, .ref q_24, .int 0, .int 0, .ref q_25, .ref q_26, .ref q_27])), (q_16, .inr (6, [.int 0, .ref q_28, .ref q_29, .ref q_30, .ref q_31, .ref q_32, .ref q_33, .ref q_34])), (q_5, .inr (2, [.ref q_35, .ref q_36, .ref q_37, .int 0, .ref q_38, .ref q_39, .int 9, .int 0, .ref q_40])), (q_35, .inr (3, [.int 0, .ref q_41, .ref q_42, .ref q_43, .ref q_44])), (q_43, aI g 6 z0), (q_36, .inr (0, [.int 0, .int 0, .ref q_45, .int 0, .int 0, .ref q_46, .ref q_47, .ref q_48])), (q_37, .inr (6, [.int 0, .ref q_49, .ref q_50, .ref q_51, .ref q_52, .ref q_53, .ref q_54, .ref q_55])), (q_40, aI g 4 z0), (q_6, aO g 41 (va_up (va_up f_58 0 (some q_57)) 1 (some q_56))), (q_57, .inr (9, [.int 0, .int 0, .int 0, .int 0, .int 0, .int 0, .int 0, .ref q_59, .ref q_60, .ref q_61, .ref q_62, .ref q_63, .ref q_64, .ref q_65])), (q_59, aI g 6 z0), (q_60, aI g 6 z0), (q_61, aI g 8 z0), (q_62, aI g 8 z0), (q_63, aI g 8 z0), (q_64, aI g 16 z0), (q_65, aI g 60 z0), (q_56, .inr (9, [.int 0, .int 0, .int 0, .int 0, .int 0, .int 0, .int 0, .ref q_66, .ref q_67, .ref q_68, .ref q_69, .ref q_70, .ref q_71, .ref q_72])), (q_66, aI g 6 z0), (q_67, aI g 6 z0), (q_68, aI g 8 z0), (q_69, aI g 8 z0), (q_70, aI g 8 z0), (q_71, aI g 16 z0), (q_72, aI g 60 z0), (q_7, aO g 3 (va_up (va_up (va_up zR 0 (some q_75)) 1 (some q_74)) 2 (some q_73))), (q_75, .inr (9, [.int 0, .int 0, .int 0, .int 0, .int 0, .int 0, .int 0, .ref q_76, .ref q_77, .ref q_78, .ref q_79, .ref q_80, .ref q_81, .ref q_82])), (q_76, aI g 6 z0), (q_77, aI g 6 z0), (q_78, aI g 8 z0), (q_79, aI g 8 z0), (q_80, aI g 8 z0), (q_81, aI g 16 z0), (q_82, aI g 60 z0), (q_74, .inr (9, [.int 0, .int 0, .int 0, .int 0, .int 0, .int 0, .int 0, .ref q_83, .ref q_84, .ref q_85, .ref q_86, .ref q_87, .ref q_88, .ref q_89])), (q_83, aI g 6 z0), (q_84, aI g 6 z0), (q_85, aI g 8 z0), (q_86, aI g 8 z0), (q_87, aI g 8 z0), (q_88, aI g 16 z0), (q_89, aI g 60 z0), (q_73, .inr (9, [.int 0, .int 0, .int 0, .int 0, .int 0, .int 0, .int 0, .ref q_90, .ref q_91, .ref q_92, .ref q_93, .ref q_94, .ref q_95, .ref q_96])), (q_90, aI g 6 z0), (q_91, aI g 6 z0), (q_92, aI g 8 z0), (q_93, aI g 8 z0), (q_94, aI g 8 z0), (q_95, aI g 16 z0), (q_96, aI g 60 z0), (q_9, .inr (8, [.int 0, .int 0, .ref q_97, .ref q_98, .ref q_99, .ref q_100])), (q_11, .inr (1, [.int 0, .ref q_101])), (q_102, .inr (12, [.ref q_103, .ref q_104, .int 0, .int 0, .int 0, .int (-1), .int 0, .int 0, .int 0, .int 0, .long 0, .ref q_105, .ref q_106, .ref q_107, .ref q_108, .ref q_109, .ref q_110, .ref q_111, .ref q_112, .ref q_113, .ref q_114, .ref q_115, .ref q_116, .ref q_117, .ref q_118, .ref q_119, .ref q_120, .ref q_121, .ref q_122, .ref q_123, .ref q_124, .ref q_125, .ref q_126, .ref q_127, .ref q_128, .ref q_129, .ref q_130, .ref q_131, .ref q_132, .ref q_133, .ref q_134, .ref q_135, .ref q_136, .int 0, .int 0, .int 0, .int 0, .int 0, .int 0, .int 0, .int 0, .int 0, .ref q_137, .ref q_138, .int 0, .int 0, .ref q_139, .ref q_140, .ref q_141, .ref q_142, .ref q_143, .ref q_144, .ref q_145, .ref q_146, .ref q_147, .ref q_148, .int 0, .int 0, .int 0, .int 0, .int 0, .int 0, .int 0, .int 0, .int 0, .int 0, .int 0, .int 0, .ref q_149, .ref q_150, .ref q_151, .ref q_152, .ref q_153, .int 0, .int 0, .ref q_154, .ref q_155])), (q_103, aB g 1620 z0), (q_105, aI g 2 z0), (q_106, aI g 2 z0), (q_107, aI g 2 z0), (q_108, aI g 2 z0), (q_109, aI g 2 z0), (q_110, aI g 2 (upd z0 0 9)), (q_111, aI g 2 z0), (q_126, aZ g 2 z0), (q_127, aZ g 2 z0), (q_137, aI g 374 z0), (q_138, aI g 15334 z0), (q_154, aI g 1122 z0), (q_155, aZ g 3 z0)] H := hP
  have hD : va_D A [(q_1, .inr (11, [.ref q_2, .int 0, .ref q_3, .ref q_4, .ref q_5, .ref q_6, .int 0, .int 0, .ref q_7, .int 0, .ref q_8, .ref q_9, .ref q_10, .ref q_11])), (q_2, aB g 1600 z0), (q_3, .inr (5, [.int 0, .int (-1), .ref q_12, .null, .int 0, .int 0, .int 0])), (q_12, .inr (10, [.int 0, .int 0, .int 0, .long 0, .null, .int 0, .int 0, .ref q_13])), (q_4, .inr (2, [.ref q_14, .ref q_15, .ref q_16, .int 0, .ref q_17, .ref q_18, .int 9, .int 0, .ref q_19])), (q_14, .inr (3, [.int 0, .ref q_20, .ref q_21, .ref q_22, .ref q_23])), (q_15, .inr (0, [.int 0, .int 0, .ref q_24, .int 0, .int 0, .ref q_25, .ref q_26, .ref q_27])), (q_16, .inr (6, [.int 0, .ref q_28, .ref q_29, .ref q_30, .ref q_31, .ref q_32, .ref q_33, .ref q_34])), (q_5, .inr (2, [.ref q_35, .ref q_36, .ref q_37, .int 0, .ref q_38, .ref q_39, .int 9, .int 0, .ref q_40])), (q_35, .inr (3, [.int 0, .ref q_41, .ref q_42, .ref q_43, .ref q_44])), (q_43, aI g 6 z0), (q_36, .inr (0, [.int 0, .int 0, .ref q_45, .int 0, .int 0, .ref q_46, .ref q_47, .ref q_48])), (q_37, .inr (6, [.int 0, .ref q_49, .ref q_50, .ref q_51, .ref q_52, .ref q_53, .ref q_54, .ref q_55])), (q_40, aI g 4 z0), (q_6, aO g 41 (va_up (va_up f_58 0 (some q_57)) 1 (some q_56))), (q_57, .inr (9, [.int 0, .int 0, .int 0, .int 0, .int 0, .int 0, .int 0, .ref q_59, .ref q_60, .ref q_61, .ref q_62, .ref q_63, .ref q_64, .ref q_65])), (q_59, aI g 6 z0), (q_60, aI g 6 z0), (q_61, aI g 8 z0), (q_62, aI g 8 z0), (q_63, aI g 8 z0), (q_64, aI g 16 z0), (q_65, aI g 60 z0), (q_56, .inr (9, [.int 0, .int 0, .int 0, .int 0, .int 0, .int 0, .int 0, .ref q_66, .ref q_67, .ref q_68, .ref q_69, .ref q_70, .ref q_71, .ref q_72])), (q_66, aI g 6 z0), (q_67, aI g 6 z0), (q_68, aI g 8 z0), (q_69, aI g 8 z0), (q_70, aI g 8 z0), (q_71, aI g 16 z0), (q_72, aI g 60 z0), (q_7, aO g 3 (va_up (va_up (va_up zR 0 (some q_75)) 1 (some q_74)) 2 (some q_73))), (q_75, .inr (9, [.int 0, .int 0, .int 0, .int 0, .int 0, .int 0, .int 0, .ref q_76, .ref q_77, .ref q_78, .ref q_79, .ref q_80, .ref q_81, .ref q_82])), (q_76, aI g 6 z0), (q_77, aI g 6 z0), (q_78, aI g 8 z0), (q_79, aI g 8 z0), (q_80, aI g 8 z0), (q_81, aI g 16 z0), (q_82, aI g 60 z0), (q_74, .inr (9, [.int 0, .int 0, .int 0, .int 0, .int 0, .int 0, .int 0, .ref q_83, .ref q_84, .ref q_85, .ref q_86, .ref q_87, .ref q_88, .ref q_89])), (q_83, aI g 6 z0), (q_84, aI g 6 z0), (q_85, aI g 8 z0), (q_86, aI g 8 z0), (q_87, aI g 8 z0), (q_88, aI g 16 z0), (q_89, aI g 60 z0), (q_73, .inr (9, [.int 0, .int 0, .int 0, .int 0, .int 0, .int 0, .int 0, .ref q_90, .ref q_91, .ref q_92, .ref q_93, .ref q_94, .ref q_95, .ref q_96])), (q_90, aI g 6 z0), (q_91, aI g 6 z0), (q_92, aI g 8 z0), (q_93, aI g 8 z0), (q_94, aI g 8 z0), (q_95, aI g 16 z0), (q_96, aI g 60 z0), (q_9, .inr (8, [.int 0, .int 0, .ref q_97, .ref q_98, .ref q_99, .ref q_100])), (q_11, .inr (1, [.int 0, .ref q_101])), (q_102, .inr (12, [.ref q_103, .ref q_104, .int 0, .int 0, .int 0, .int (-1), .int 0, .int 0, .int 0, .int 0, .long 0, .ref q_105, .ref q_106, .ref q_107, .ref q_108, .ref q_109, .ref q_110, .ref q_111, .ref q_112, .ref q_113, .ref q_114, .ref q_115, .ref q_116, .ref q_117, .ref q_118, .ref q_119, .ref q_120, .ref q_121, .ref q_122, .ref q_123, .ref q_124, .ref q_125, .ref q_126, .ref q_127, .ref q_128, .ref q_129, .ref q_130, .ref q_131, .ref q_132, .ref q_133, .ref q_134, .ref q_135, .ref q_136, .int 0, .int 0, .int 0, .int 0, .int 0, .int 0, .int 0, .int 0, .int 0, .ref q_137, .ref q_138, .int 0, .int 0, .ref q_139, .ref q_140, .ref q_141, .ref q_142, .ref q_143, .ref q_144, .ref q_145, .ref q_146, .ref q_147, .ref q_148, .int 0, .int 0, .int 0, .int 0, .int 0, .int 0, .int 0, .int 0, .int 0, .int 0, .int 0, .int 0, .ref q_149, .ref q_150, .ref q_151, .ref q_152, .ref q_153, .int 0, .int 0, .ref q_154, .ref q_155])), (q_103, aB g 1620 z0), (q_105, aI g 2 z0), (q_106, aI g 2 z0), (q_107, aI g 2 z0), (q_108, aI g 2 z0), (q_109, aI g 2 z0), (q_110, aI g 2 (upd z0 0 9)), (q_111, aI g 2 z0), (q_126, aZ g 2 z0), (q_127, aZ g 2 z0), (q_137, aI g 374 z0), (q_138, aI g 15334 z0), (q_154, aI g 1122 z0), (q_155, aZ g 3 z0)] := hD
  refine W.widen (k := 476) (n := 78636) (by decide) (by decide) ?_
  refine lv_astore_n (lv' := [(2, .ref q_102), (1, .ref q_1), (0, .ref b)]) hx hb dL_law_15 rfl hl (by decide) rfl (fun ls hl => ?_)
  refine lv_iconst (v := 0) hx hb dL_law_16 (by decide) ?_
  refine lv_istore_n (lv' := [(3, .int 0), (2, .ref q_102), (1, .ref q_1), (0, .ref b)]) hx hb dL_law_17 rfl hl (by decide) rfl (fun ls hl => ?_)
  rcases (show L = 0 ∨ L = 1 ∨ L = 2 ∨ L = 3 ∨ L = 4 ∨ L = 5 ∨ L = 6 by omega) with rfl | rfl | rfl | rfl | rfl | rfl | rfl
  · refine lv_iload_n hx hb dL_law_18 rfl (lv_at hl 0 rfl) ?_
    refine lv_aload_n hx hb dL_law_19 rfl (lv_at hl 3 rfl) ?_
    refine va_slen hx hb hXs hbl hbA hS dL_law_20 ?_
    refine p_ti (v := 0) rfl ?_
    refine lv_bipush (v := 6) hx hb dL_law_21 (by decide) ?_
    refine lv_isub hx hb dL_law_23 ?_
    refine p_ti (v := (-6)) (by decide +kernel) ?_
    refine lv_icmp_gt (tgt := 1223) hx hb dL_law_24 (by decide) (fun _ => ?_) (fun c9 => absurd (by decide) c9)
    refine lv_iconst (v := 1) hx hb dL_law_1223 (by decide) ?_
    refine va_forget (fun q hq => by have h9 := hS.2.2 q hq; rw [hAe] at h9; exact h9) ?_
    refine W.widen (k := 600000) (n := 7302249) (by decide) (by decide) ?_
    exact lw_ret hx hb hr hlocks dL_law_1224
  · refine lv_iload_n hx hb dL_law_18 rfl (lv_at hl 0 rfl) ?_
    refine lv_aload_n hx hb dL_law_19 rfl (lv_at hl 3 rfl) ?_
    refine va_slen hx hb hXs hbl hbA hS dL_law_20 ?_
    refine p_ti (v := 1) rfl ?_
    refine lv_bipush (v := 6) hx hb dL_law_21 (by decide) ?_
    refine lv_isub hx hb dL_law_23 ?_
    refine p_ti (v := (-5)) (by decide +kernel) ?_
    refine lv_icmp_gt (tgt := 1223) hx hb dL_law_24 (by decide) (fun _ => ?_) (fun c9 => absurd (by decide) c9)
    refine lv_iconst (v := 1) hx hb dL_law_1223 (by decide) ?_
    refine va_forget (fun q hq => by have h9 := hS.2.2 q hq; rw [hAe] at h9; exact h9) ?_
    refine W.widen (k := 600000) (n := 7302249) (by decide) (by decide) ?_
    exact lw_ret hx hb hr hlocks dL_law_1224
  · refine lv_iload_n hx hb dL_law_18 rfl (lv_at hl 0 rfl) ?_
    refine lv_aload_n hx hb dL_law_19 rfl (lv_at hl 3 rfl) ?_
    refine va_slen hx hb hXs hbl hbA hS dL_law_20 ?_
    refine p_ti (v := 2) rfl ?_
    refine lv_bipush (v := 6) hx hb dL_law_21 (by decide) ?_
    refine lv_isub hx hb dL_law_23 ?_
    refine p_ti (v := (-4)) (by decide +kernel) ?_
    refine lv_icmp_gt (tgt := 1223) hx hb dL_law_24 (by decide) (fun _ => ?_) (fun c9 => absurd (by decide) c9)
    refine lv_iconst (v := 1) hx hb dL_law_1223 (by decide) ?_
    refine va_forget (fun q hq => by have h9 := hS.2.2 q hq; rw [hAe] at h9; exact h9) ?_
    refine W.widen (k := 600000) (n := 7302249) (by decide) (by decide) ?_
    exact lw_ret hx hb hr hlocks dL_law_1224
  · refine lv_iload_n hx hb dL_law_18 rfl (lv_at hl 0 rfl) ?_
    refine lv_aload_n hx hb dL_law_19 rfl (lv_at hl 3 rfl) ?_
    refine va_slen hx hb hXs hbl hbA hS dL_law_20 ?_
    refine p_ti (v := 3) rfl ?_
    refine lv_bipush (v := 6) hx hb dL_law_21 (by decide) ?_
    refine lv_isub hx hb dL_law_23 ?_
    refine p_ti (v := (-3)) (by decide +kernel) ?_
    refine lv_icmp_gt (tgt := 1223) hx hb dL_law_24 (by decide) (fun _ => ?_) (fun c9 => absurd (by decide) c9)
    refine lv_iconst (v := 1) hx hb dL_law_1223 (by decide) ?_
    refine va_forget (fun q hq => by have h9 := hS.2.2 q hq; rw [hAe] at h9; exact h9) ?_
    refine W.widen (k := 600000) (n := 7302249) (by decide) (by decide) ?_
    exact lw_ret hx hb hr hlocks dL_law_1224
  · refine lv_iload_n hx hb dL_law_18 rfl (lv_at hl 0 rfl) ?_
    refine lv_aload_n hx hb dL_law_19 rfl (lv_at hl 3 rfl) ?_
    refine va_slen hx hb hXs hbl hbA hS dL_law_20 ?_
    refine p_ti (v := 4) rfl ?_
    refine lv_bipush (v := 6) hx hb dL_law_21 (by decide) ?_
    refine lv_isub hx hb dL_law_23 ?_
    refine p_ti (v := (-2)) (by decide +kernel) ?_
    refine lv_icmp_gt (tgt := 1223) hx hb dL_law_24 (by decide) (fun _ => ?_) (fun c9 => absurd (by decide) c9)
    refine lv_iconst (v := 1) hx hb dL_law_1223 (by decide) ?_
    refine va_forget (fun q hq => by have h9 := hS.2.2 q hq; rw [hAe] at h9; exact h9) ?_
    refine W.widen (k := 600000) (n := 7302249) (by decide) (by decide) ?_
    exact lw_ret hx hb hr hlocks dL_law_1224
  · refine lv_iload_n hx hb dL_law_18 rfl (lv_at hl 0 rfl) ?_
    refine lv_aload_n hx hb dL_law_19 rfl (lv_at hl 3 rfl) ?_
    refine va_slen hx hb hXs hbl hbA hS dL_law_20 ?_
    refine p_ti (v := 5) rfl ?_
    refine lv_bipush (v := 6) hx hb dL_law_21 (by decide) ?_
    refine lv_isub hx hb dL_law_23 ?_
    refine p_ti (v := (-1)) (by decide +kernel) ?_
    refine lv_icmp_gt (tgt := 1223) hx hb dL_law_24 (by decide) (fun _ => ?_) (fun c9 => absurd (by decide) c9)
    refine lv_iconst (v := 1) hx hb dL_law_1223 (by decide) ?_
    refine va_forget (fun q hq => by have h9 := hS.2.2 q hq; rw [hAe] at h9; exact h9) ?_
    refine W.widen (k := 600000) (n := 7302249) (by decide) (by decide) ?_
    exact lw_ret hx hb hr hlocks dL_law_1224
  · refine lv_iload_n hx hb dL_law_18 rfl (lv_at hl 0 rfl) ?_
    refine lv_aload_n hx hb dL_law_19 rfl (lv_at hl 3 rfl) ?_
    refine va_slen hx hb hXs hbl hbA hS dL_law_20 ?_
    refine p_ti (v := 6) rfl ?_
    refine lv_bipush (v := 6) hx hb dL_law_21 (by decide) ?_
    refine lv_isub hx hb dL_law_23 ?_
    refine p_ti (v := 0) (by decide +kernel) ?_
    refine lv_icmp_gt (tgt := 1223) hx hb dL_law_24 (by decide) (fun c9 => absurd c9 (by decide)) (fun _ => ?_)
    refine lv_aload_n hx hb dL_law_27 rfl (lv_at hl 3 rfl) ?_
    refine lv_iload_n hx hb dL_law_28 rfl (lv_at hl 0 rfl) ?_
    refine va_sld hx hb hXs hbl hbA hS (i := 0) (by unfold vp_in; decide) dL_law_29 ?_
    refine p_ti (v := xs 0) rfl ?_
    refine lv_bipush (v := 63) hx hb dL_law_30 (by decide) ?_
    refine lv_iand hx hb dL_law_32 ?_
    refine lv_topi (fun x_156 ex_156 => ?_)
    rcases tsplit x_156 37 (by decide) with h_157 | ⟨j, hj, eh_157⟩
    · refine lv_tableOut (tgt := 1217) hx hb dL_law_33 (by omega) (by decide) ?_
      refine lv_iinc (v := 6) (lv' := [(3, .int 6), (2, .ref q_102), (1, .ref q_1), (0, .ref b)]) hx hb dL_law_1217 hl (k := 0) rfl (by decide) (by decide) rfl (fun ls hl => ?_)
      refine lv_goto (tgt := 18) hx hb dL_law_1220 (by decide) ?_
      refine lv_iload_n hx hb dL_law_18 rfl (lv_at hl 0 rfl) ?_
      refine lv_aload_n hx hb dL_law_19 rfl (lv_at hl 3 rfl) ?_
      refine va_slen hx hb hXs hbl hbA hS dL_law_20 ?_
      refine p_ti (v := 6) rfl ?_
      refine lv_bipush (v := 6) hx hb dL_law_21 (by decide) ?_
      refine lv_isub hx hb dL_law_23 ?_
      refine p_ti (v := 0) (by decide +kernel) ?_
      refine lv_icmp_gt (tgt := 1223) hx hb dL_law_24 (by decide) (fun _ => ?_) (fun c9 => absurd (by decide) c9)
      refine lv_iconst (v := 1) hx hb dL_law_1223 (by decide) ?_
      refine va_forget (fun q hq => by have h9 := hS.2.2 q hq; rw [hAe] at h9; exact h9) ?_
      refine W.widen (k := 600000) (n := 7302249) (by decide) (by decide) ?_
      exact lw_ret hx hb hr hlocks dL_law_1224
    · rcases (show j = 0 ∨ j = 1 ∨ j = 2 ∨ j = 3 ∨ j = 4 ∨ j = 5 ∨ j = 6 ∨ j = 7 ∨ j = 8 ∨ j = 9 ∨ j = 10 ∨ j = 11 ∨ j = 12 ∨ j = 13 ∨ j = 14 ∨ j = 15 ∨ j = 16 ∨ j = 17 ∨ j = 18 ∨ j = 19 ∨ j = 20 ∨ j = 21 ∨ j = 22 ∨ j = 23 ∨ j = 24 ∨ j = 25 ∨ j = 26 ∨ j = 27 ∨ j = 28 ∨ j = 29 ∨ j = 30 ∨ j = 31 ∨ j = 32 ∨ j = 33 ∨ j = 34 ∨ j = 35 ∨ j = 36 by omega) with rfl | rfl | rfl | rfl | rfl | rfl | rfl | rfl | rfl | rfl | rfl | rfl | rfl | rfl | rfl | rfl | rfl | rfl | rfl | rfl | rfl | rfl | rfl | rfl | rfl | rfl | rfl | rfl | rfl | rfl | rfl | rfl | rfl | rfl | rfl | rfl | rfl
      · obtain rfl : x_156 = 0 := eh_157
        refine lv_tableIn (tgt := 196) hx hb dL_law_33 (by decide) (by decide) (off := 163) (by decide) (by decide) ?_
        have hP : va_P g.1 vwCl [(q_1, .inr (11, [.ref q_2, .int 0, .ref q_3, .ref q_4, .ref q_5, .ref q_6, .int 0, .int 0, .ref q_7, .int 0, .ref q_8, .ref q_9, .ref q_10, .ref q_11])), (q_2, aB g 1600 z0), (q_102, .inr (12, [.ref q_103, .ref q_104, .int 0, .int 0, .int 0, .int (-1), .int 0, .int 0, .int 0, .int 0, .long 0, .ref q_105, .ref q_106, .ref q_107, .ref q_108, .ref q_109, .ref q_110, .ref q_111, .ref q_112, .ref q_113, .ref q_114, .ref q_115, .ref q_116, .ref q_117, .ref q_118, .ref q_119, .ref q_120, .ref q_121, .ref q_122, .ref q_123, .ref q_124, .ref q_125, .ref q_126, .ref q_127, .ref q_128, .ref q_129, .ref q_130, .ref q_131, .ref q_132, .ref q_133, .ref q_134, .ref q_135, .ref q_136, .int 0, .int 0, .int 0, .int 0, .int 0, .int 0, .int 0, .int 0, .int 0, .ref q_137, .ref q_138, .int 0, .int 0, .ref q_139, .ref q_140, .ref q_141, .ref q_142, .ref q_143, .ref q_144, .ref q_145, .ref q_146, .ref q_147, .ref q_148, .int 0, .int 0, .int 0, .int 0, .int 0, .int 0, .int 0, .int 0, .int 0, .int 0, .int 0, .int 0, .ref q_149, .ref q_150, .ref q_151, .ref q_152, .ref q_153, .int 0, .int 0, .ref q_154, .ref q_155])), (q_103, aB g 1620 z0)] H := hP.sub [0, 1, 58, 59] rfl
        have hD : va_D A [(q_1, .inr (11, [.ref q_2, .int 0, .ref q_3, .ref q_4, .ref q_5, .ref q_6, .int 0, .int 0, .ref q_7, .int 0, .ref q_8, .ref q_9, .ref q_10, .ref q_11])), (q_2, aB g 1600 z0), (q_102, .inr (12, [.ref q_103, .ref q_104, .int 0, .int 0, .int 0, .int (-1), .int 0, .int 0, .int 0, .int 0, .long 0, .ref q_105, .ref q_106, .ref q_107, .ref q_108, .ref q_109, .ref q_110, .ref q_111, .ref q_112, .ref q_113, .ref q_114, .ref q_115, .ref q_116, .ref q_117, .ref q_118, .ref q_119, .ref q_120, .ref q_121, .ref q_122, .ref q_123, .ref q_124, .ref q_125, .ref q_126, .ref q_127, .ref q_128, .ref q_129, .ref q_130, .ref q_131, .ref q_132, .ref q_133, .ref q_134, .ref q_135, .ref q_136, .int 0, .int 0, .int 0, .int 0, .int 0, .int 0, .int 0, .int 0, .int 0, .ref q_137, .ref q_138, .int 0, .int 0, .ref q_139, .ref q_140, .ref q_141, .ref q_142, .ref q_143, .ref q_144, .ref q_145, .ref q_146, .ref q_147, .ref q_148, .int 0, .int 0, .int 0, .int 0, .int 0, .int 0, .int 0, .int 0, .int 0, .int 0, .int 0, .int 0, .ref q_149, .ref q_150, .ref q_151, .ref q_152, .ref q_153, .int 0, .int 0, .ref q_154, .ref q_155])), (q_103, aB g 1620 z0)] := hD.sub [0, 1, 58, 59] (by decide) rfl
        refine lv_aload_n hx hb dL_law_196 rfl (lv_at hl 2 rfl) ?_
        refine lv_aload_n hx hb dL_law_197 rfl (lv_at hl 3 rfl) ?_
        refine lv_iload_n hx hb dL_law_198 rfl (lv_at hl 0 rfl) ?_
        refine lv_iconst (v := 1) hx hb dL_law_199 (by decide) ?_
        refine lv_iadd hx hb dL_law_200 ?_
        refine p_ti (v := 1) (by decide +kernel) ?_
        refine va_sld hx hb hXs hbl hbA hS (i := 1) (by unfold vp_in; decide) dL_law_201 ?_
        refine p_ti (v := xs 1) rfl ?_
        refine lv_aload_n hx hb dL_law_202 rfl (lv_at hl 3 rfl) ?_
        refine lv_iload_n hx hb dL_law_203 rfl (lv_at hl 0 rfl) ?_
        refine lv_iconst (v := 2) hx hb dL_law_204 (by decide) ?_
        refine lv_iadd hx hb dL_law_205 ?_
        refine p_ti (v := 2) (by decide +kernel) ?_
        refine va_sld hx hb hXs hbl hbA hS (i := 2) (by unfold vp_in; decide) dL_law_206 ?_
        refine p_ti (v := xs 2) rfl ?_
        refine lv_aload_n hx hb dL_law_207 rfl (lv_at hl 3 rfl) ?_
        refine lv_iload_n hx hb dL_law_208 rfl (lv_at hl 0 rfl) ?_
        refine lv_iconst (v := 3) hx hb dL_law_209 (by decide) ?_
        refine lv_iadd hx hb dL_law_210 ?_
        refine p_ti (v := 3) (by decide +kernel) ?_
        refine va_sld hx hb hXs hbl hbA hS (i := 3) (by unfold vp_in; decide) dL_law_211 ?_
        refine p_ti (v := xs 3) rfl ?_
        refine lv_aload_n hx hb dL_law_212 rfl (lv_at hl 3 rfl) ?_
        refine lv_iload_n hx hb dL_law_213 rfl (lv_at hl 0 rfl) ?_
        refine lv_iconst (v := 4) hx hb dL_law_214 (by decide) ?_
        refine lv_iadd hx hb dL_law_215 ?_
        refine p_ti (v := 4) (by decide +kernel) ?_
        refine va_sld hx hb hXs hbl hbA hS (i := 4) (by unfold vp_in; decide) dL_law_216 ?_
        refine p_ti (v := xs 4) rfl ?_
        refine lv_aload_n hx hb dL_law_217 rfl (lv_at hl 3 rfl) ?_
        refine lv_iload_n hx hb dL_law_218 rfl (lv_at hl 0 rfl) ?_
        refine lv_iconst (v := 5) hx hb dL_law_219 (by decide) ?_
        refine lv_iadd hx hb dL_law_220 ?_
        refine p_ti (v := 5) (by decide +kernel) ?_
        refine va_sld hx hb hXs hbl hbA hS (i := 5) (by unfold vp_in; decide) dL_law_221 ?_
        refine p_ti (v := xs 5) rfl ?_
        refine k_i (wr := [(q_102, .inr (12, [.ref q_103, .ref q_104, .int 0, .int 0, .int 0, .int (-1), .int 0, .int 0, .int 0, .int 0, .long 0, .ref q_105, .ref q_106, .ref q_107, .ref q_108, .ref q_109, .ref q_110, .ref q_111, .ref q_112, .ref q_113, .ref q_114, .ref q_115, .ref q_116, .ref q_117, .ref q_118, .ref q_119, .ref q_120, .ref q_121, .ref q_122, .ref q_123, .ref q_124, .ref q_125, .ref q_126, .ref q_127, .ref q_128, .ref q_129, .ref q_130, .ref q_131, .ref q_132, .ref q_133, .ref q_134, .ref q_135, .ref q_136, .int 0, .int 0, .int 0, .int 0, .int 0, .int 0, .int 0, .int 0, .int 0, .ref q_137, .ref q_138, .int 0, .int 0, .ref q_139, .ref q_140, .ref q_141, .ref q_142, .ref q_143, .ref q_144, .ref q_145, .ref q_146, .ref q_147, .ref q_148, .int 0, .int 0, .int 0, .int 0, .int 0, .int 0, .int 0, .int 0, .int 0, .int 0, .int 0, .int 0, .ref q_149, .ref q_150, .ref q_151, .ref q_152, .ref q_153, .int 0, .int 0, .ref q_154, .ref q_155])), (q_103, aB g 1620 z0)]) (k_V (n := 5) ⟨hx, hb, hml, hown, hT⟩ hK hP hD [0, 1] rfl (by decide) (c_X11_feed l g H.size q_1 q_2 q_3 q_4 q_5 q_6 q_7 q_8 q_9 q_10 q_11 (xs 1) (xs 2) (xs 3) (xs 4) (xs 5)) (gV bw_542 bw_543 bw_544 bw_207 bw_218) rfl rfl (by decide +kernel) ⟨by decide, by decide⟩ (ci := 11) (q0 := 0) rfl rfl (fun _ _ _ _ _ => trivial) (fun _ _ _ => trivial) rfl rfl hl.1 (Nat.le_of_ble_eq_true rfl) dL_law_222 ⟨by decide, by decide⟩) hP hD hS hA [0, 1] [2, 3] rfl rfl (by decide) (by decide) (fun r_158 u H locs hw hP hD hS => ?_)
        have hP : va_P g.1 vwCl [(q_102, .inr (12, [.ref q_103, .ref q_104, .int 0, .int 0, .int 0, .int (-1), .int 0, .int 0, .int 0, .int 0, .long 0, .ref q_105, .ref q_106, .ref q_107, .ref q_108, .ref q_109, .ref q_110, .ref q_111, .ref q_112, .ref q_113, .ref q_114, .ref q_115, .ref q_116, .ref q_117, .ref q_118, .ref q_119, .ref q_120, .ref q_121, .ref q_122, .ref q_123, .ref q_124, .ref q_125, .ref q_126, .ref q_127, .ref q_128, .ref q_129, .ref q_130, .ref q_131, .ref q_132, .ref q_133, .ref q_134, .ref q_135, .ref q_136, .int 0, .int 0, .int 0, .int 0, .int 0, .int 0, .int 0, .int 0, .int 0, .ref q_137, .ref q_138, .int 0, .int 0, .ref q_139, .ref q_140, .ref q_141, .ref q_142, .ref q_143, .ref q_144, .ref q_145, .ref q_146, .ref q_147, .ref q_148, .int 0, .int 0, .int 0, .int 0, .int 0, .int 0, .int 0, .int 0, .int 0, .int 0, .int 0, .int 0, .ref q_149, .ref q_150, .ref q_151, .ref q_152, .ref q_153, .int 0, .int 0, .ref q_154, .ref q_155])), (q_103, aB g 1620 z0)] H := hP
        have hD : va_D A [(q_102, .inr (12, [.ref q_103, .ref q_104, .int 0, .int 0, .int 0, .int (-1), .int 0, .int 0, .int 0, .int 0, .long 0, .ref q_105, .ref q_106, .ref q_107, .ref q_108, .ref q_109, .ref q_110, .ref q_111, .ref q_112, .ref q_113, .ref q_114, .ref q_115, .ref q_116, .ref q_117, .ref q_118, .ref q_119, .ref q_120, .ref q_121, .ref q_122, .ref q_123, .ref q_124, .ref q_125, .ref q_126, .ref q_127, .ref q_128, .ref q_129, .ref q_130, .ref q_131, .ref q_132, .ref q_133, .ref q_134, .ref q_135, .ref q_136, .int 0, .int 0, .int 0, .int 0, .int 0, .int 0, .int 0, .int 0, .int 0, .ref q_137, .ref q_138, .int 0, .int 0, .ref q_139, .ref q_140, .ref q_141, .ref q_142, .ref q_143, .ref q_144, .ref q_145, .ref q_146, .ref q_147, .ref q_148, .int 0, .int 0, .int 0, .int 0, .int 0, .int 0, .int 0, .int 0, .int 0, .int 0, .int 0, .int 0, .ref q_149, .ref q_150, .ref q_151, .ref q_152, .ref q_153, .int 0, .int 0, .ref q_154, .ref q_155])), (q_103, aB g 1620 z0)] := hD
        have hw : r_158 = 20 := hw
        subst hw
        refine lv_aload_n hx hb dL_law_225 rfl (lv_at hl 1 rfl) ?_
        refine lv_aload_n hx hb dL_law_226 rfl (lv_at hl 3 rfl) ?_
        refine lv_iload_n hx hb dL_law_227 rfl (lv_at hl 0 rfl) ?_
        refine lv_iconst (v := 1) hx hb dL_law_228 (by decide) ?_
        refine lv_iadd hx hb dL_law_229 ?_
        refine p_ti (v := 1) (by decide +kernel) ?_
        refine va_sld hx hb hXs hbl hbA hS (i := 1) (by unfold vp_in; decide) dL_law_230 ?_
        refine p_ti (v := xs 1) rfl ?_
        refine lv_aload_n hx hb dL_law_231 rfl (lv_at hl 3 rfl) ?_
        refine lv_iload_n hx hb dL_law_232 rfl (lv_at hl 0 rfl) ?_
        refine lv_iconst (v := 2) hx hb dL_law_233 (by decide) ?_
        refine lv_iadd hx hb dL_law_234 ?_
        refine p_ti (v := 2) (by decide +kernel) ?_
        refine va_sld hx hb hXs hbl hbA hS (i := 2) (by unfold vp_in; decide) dL_law_235 ?_
        refine p_ti (v := xs 2) rfl ?_
        refine lv_aload_n hx hb dL_law_236 rfl (lv_at hl 3 rfl) ?_
        refine lv_iload_n hx hb dL_law_237 rfl (lv_at hl 0 rfl) ?_
        refine lv_iconst (v := 3) hx hb dL_law_238 (by decide) ?_
        refine lv_iadd hx hb dL_law_239 ?_
        refine p_ti (v := 3) (by decide +kernel) ?_
        refine va_sld hx hb hXs hbl hbA hS (i := 3) (by unfold vp_in; decide) dL_law_240 ?_
        refine p_ti (v := xs 3) rfl ?_
        refine lv_aload_n hx hb dL_law_241 rfl (lv_at hl 3 rfl) ?_
        refine lv_iload_n hx hb dL_law_242 rfl (lv_at hl 0 rfl) ?_
        refine lv_iconst (v := 4) hx hb dL_law_243 (by decide) ?_
        refine lv_iadd hx hb dL_law_244 ?_
        refine p_ti (v := 4) (by decide +kernel) ?_
        refine va_sld hx hb hXs hbl hbA hS (i := 4) (by unfold vp_in; decide) dL_law_245 ?_
        refine p_ti (v := xs 4) rfl ?_
        refine lv_aload_n hx hb dL_law_246 rfl (lv_at hl 3 rfl) ?_
        refine lv_iload_n hx hb dL_law_247 rfl (lv_at hl 0 rfl) ?_
        refine lv_iconst (v := 5) hx hb dL_law_248 (by decide) ?_
        refine lv_iadd hx hb dL_law_249 ?_
        refine p_ti (v := 5) (by decide +kernel) ?_
        refine va_sld hx hb hXs hbl hbA hS (i := 5) (by unfold vp_in; decide) dL_law_250 ?_
        refine p_ti (v := xs 5) rfl ?_
        refine k_i (wr := []) (k_V (n := 5) ⟨hx, hb, hml, hown, hT⟩ hK hP hD [0, 1] rfl (by decide) (c_X12_feed l g H.size q_102 q_103 q_104 q_105 q_106 q_107 q_108 q_109 q_110 q_111 q_112 q_113 q_114 q_115 q_116 q_117 q_118 q_119 q_120 q_121 q_122 q_123 q_124 q_125 q_126 q_127 q_128 q_129 q_130 q_131 q_132 q_133 q_134 q_135 q_136 q_137 q_138 q_139 q_140 q_141 q_142 q_143 q_144 q_145 q_146 q_147 q_148 q_149 q_150 q_151 q_152 q_153 q_154 q_155 (xs 1) (xs 2) (xs 3) (xs 4) (xs 5)) (gV bw_545 bw_546 bw_547 bw_233 bw_339) rfl rfl (by decide +kernel) ⟨by decide, by decide⟩ (ci := 12) (q0 := 0) rfl rfl (fun _ _ _ _ _ => trivial) (fun _ _ _ => trivial) rfl rfl hl.1 (Nat.le_of_ble_eq_true rfl) dL_law_251 ⟨by decide, by decide⟩) hP hD hS hA [0, 1] [] rfl rfl (by decide) (by decide) (fun r_159 u H locs hw hP hD hS => ?_)
        have hP : va_P g.1 vwCl [] H := hP
        have hD : va_D A [] := hD
        have hw : r_159 = 20 := hw
        subst hw
        refine lv_icmp_eq (tgt := 1217) hx hb dL_law_254 (by decide) (fun _ => ?_) (fun c9 => absurd (by decide) c9)
        refine lv_iinc (v := 6) (lv' := [(3, .int 6), (2, .ref q_102), (1, .ref q_1), (0, .ref b)]) hx hb dL_law_1217 hl (k := 0) rfl (by decide) (by decide) rfl (fun ls hl => ?_)
        refine lv_goto (tgt := 18) hx hb dL_law_1220 (by decide) ?_
        refine lv_iload_n hx hb dL_law_18 rfl (lv_at hl 0 rfl) ?_
        refine lv_aload_n hx hb dL_law_19 rfl (lv_at hl 3 rfl) ?_
        refine va_slen hx hb hXs hbl hbA hS dL_law_20 ?_
        refine p_ti (v := 6) rfl ?_
        refine lv_bipush (v := 6) hx hb dL_law_21 (by decide) ?_
        refine lv_isub hx hb dL_law_23 ?_
        refine p_ti (v := 0) (by decide +kernel) ?_
        refine lv_icmp_gt (tgt := 1223) hx hb dL_law_24 (by decide) (fun _ => ?_) (fun c9 => absurd (by decide) c9)
        refine lv_iconst (v := 1) hx hb dL_law_1223 (by decide) ?_
        refine va_forget (fun q hq => by have h9 := hS.2.2 q hq; rw [hAe] at h9; exact h9) ?_
        refine W.widen (k := 600000) (n := 7302249) (by decide) (by decide) ?_
        exact lw_ret hx hb hr hlocks dL_law_1224
      · obtain rfl : x_156 = 1 := eh_157
        refine lv_tableIn (tgt := 259) hx hb dL_law_33 (by decide) (by decide) (off := 226) (by decide) (by decide) ?_
        have hP : va_P g.1 vwCl [(q_1, .inr (11, [.ref q_2, .int 0, .ref q_3, .ref q_4, .ref q_5, .ref q_6, .int 0, .int 0, .ref q_7, .int 0, .ref q_8, .ref q_9, .ref q_10, .ref q_11])), (q_102, .inr (12, [.ref q_103, .ref q_104, .int 0, .int 0, .int 0, .int (-1), .int 0, .int 0, .int 0, .int 0, .long 0, .ref q_105, .ref q_106, .ref q_107, .ref q_108, .ref q_109, .ref q_110, .ref q_111, .ref q_112, .ref q_113, .ref q_114, .ref q_115, .ref q_116, .ref q_117, .ref q_118, .ref q_119, .ref q_120, .ref q_121, .ref q_122, .ref q_123, .ref q_124, .ref q_125, .ref q_126, .ref q_127, .ref q_128, .ref q_129, .ref q_130, .ref q_131, .ref q_132, .ref q_133, .ref q_134, .ref q_135, .ref q_136, .int 0, .int 0, .int 0, .int 0, .int 0, .int 0, .int 0, .int 0, .int 0, .ref q_137, .ref q_138, .int 0, .int 0, .ref q_139, .ref q_140, .ref q_141, .ref q_142, .ref q_143, .ref q_144, .ref q_145, .ref q_146, .ref q_147, .ref q_148, .int 0, .int 0, .int 0, .int 0, .int 0, .int 0, .int 0, .int 0, .int 0, .int 0, .int 0, .int 0, .ref q_149, .ref q_150, .ref q_151, .ref q_152, .ref q_153, .int 0, .int 0, .ref q_154, .ref q_155]))] H := hP.sub [0, 58] rfl
        have hD : va_D A [(q_1, .inr (11, [.ref q_2, .int 0, .ref q_3, .ref q_4, .ref q_5, .ref q_6, .int 0, .int 0, .ref q_7, .int 0, .ref q_8, .ref q_9, .ref q_10, .ref q_11])), (q_102, .inr (12, [.ref q_103, .ref q_104, .int 0, .int 0, .int 0, .int (-1), .int 0, .int 0, .int 0, .int 0, .long 0, .ref q_105, .ref q_106, .ref q_107, .ref q_108, .ref q_109, .ref q_110, .ref q_111, .ref q_112, .ref q_113, .ref q_114, .ref q_115, .ref q_116, .ref q_117, .ref q_118, .ref q_119, .ref q_120, .ref q_121, .ref q_122, .ref q_123, .ref q_124, .ref q_125, .ref q_126, .ref q_127, .ref q_128, .ref q_129, .ref q_130, .ref q_131, .ref q_132, .ref q_133, .ref q_134, .ref q_135, .ref q_136, .int 0, .int 0, .int 0, .int 0, .int 0, .int 0, .int 0, .int 0, .int 0, .ref q_137, .ref q_138, .int 0, .int 0, .ref q_139, .ref q_140, .ref q_141, .ref q_142, .ref q_143, .ref q_144, .ref q_145, .ref q_146, .ref q_147, .ref q_148, .int 0, .int 0, .int 0, .int 0, .int 0, .int 0, .int 0, .int 0, .int 0, .int 0, .int 0, .int 0, .ref q_149, .ref q_150, .ref q_151, .ref q_152, .ref q_153, .int 0, .int 0, .ref q_154, .ref q_155]))] := hD.sub [0, 58] (by decide) rfl
        refine lv_aload_n hx hb dL_law_259 rfl (lv_at hl 2 rfl) ?_
        refine lv_aload_n hx hb dL_law_260 rfl (lv_at hl 3 rfl) ?_
        refine lv_iload_n hx hb dL_law_261 rfl (lv_at hl 0 rfl) ?_
        refine lv_iconst (v := 1) hx hb dL_law_262 (by decide) ?_
        refine lv_iadd hx hb dL_law_263 ?_
        refine p_ti (v := 1) (by decide +kernel) ?_
        refine va_sld hx hb hXs hbl hbA hS (i := 1) (by unfold vp_in; decide) dL_law_264 ?_
        refine p_ti (v := xs 1) rfl ?_
        refine k_i (wr := [(q_102, .inr (12, [.ref q_103, .ref q_104, .int 0, .int 0, .int 0, .int (-1), .int 0, .int 0, .int 0, .int 0, .long 0, .ref q_105, .ref q_106, .ref q_107, .ref q_108, .ref q_109, .ref q_110, .ref q_111, .ref q_112, .ref q_113, .ref q_114, .ref q_115, .ref q_116, .ref q_117, .ref q_118, .ref q_119, .ref q_120, .ref q_121, .ref q_122, .ref q_123, .ref q_124, .ref q_125, .ref q_126, .ref q_127, .ref q_128, .ref q_129, .ref q_130, .ref q_131, .ref q_132, .ref q_133, .ref q_134, .ref q_135, .ref q_136, .int 0, .int 0, .int 0, .int 0, .int 0, .int 0, .int 0, .int 0, .int 0, .ref q_137, .ref q_138, .int 0, .int 0, .ref q_139, .ref q_140, .ref q_141, .ref q_142, .ref q_143, .ref q_144, .ref q_145, .ref q_146, .ref q_147, .ref q_148, .int 0, .int 0, .int 0, .int 0, .int 0, .int 0, .int 0, .int 0, .int 0, .int 0, .int 0, .int 0, .ref q_149, .ref q_150, .ref q_151, .ref q_152, .ref q_153, .int 0, .int 0, .ref q_154, .ref q_155]))]) (k_V (n := 1) ⟨hx, hb, hml, hown, hT⟩ hK hP hD [0] rfl (by decide) (c_X11_end l g H.size q_1 q_2 q_3 q_4 q_5 q_6 q_7 q_8 q_9 q_10 q_11 (xs 1)) (gV bw_548 bw_549 bw_550 bw_207 bw_175) rfl rfl (by decide +kernel) ⟨by decide, by decide⟩ (ci := 11) (q0 := 0) rfl rfl (fun _ _ _ _ _ => trivial) (fun _ _ _ => trivial) rfl rfl hl.1 (Nat.le_of_ble_eq_true rfl) dL_law_265 ⟨by decide, by decide⟩) hP hD hS hA [0] [1] rfl rfl (by decide) (by decide) (fun r_160 u H locs hw hP hD hS => ?_)
        have hP : va_P g.1 vwCl [(q_102, .inr (12, [.ref q_103, .ref q_104, .int 0, .int 0, .int 0, .int (-1), .int 0, .int 0, .int 0, .int 0, .long 0, .ref q_105, .ref q_106, .ref q_107, .ref q_108, .ref q_109, .ref q_110, .ref q_111, .ref q_112, .ref q_113, .ref q_114, .ref q_115, .ref q_116, .ref q_117, .ref q_118, .ref q_119, .ref q_120, .ref q_121, .ref q_122, .ref q_123, .ref q_124, .ref q_125, .ref q_126, .ref q_127, .ref q_128, .ref q_129, .ref q_130, .ref q_131, .ref q_132, .ref q_133, .ref q_134, .ref q_135, .ref q_136, .int 0, .int 0, .int 0, .int 0, .int 0, .int 0, .int 0, .int 0, .int 0, .ref q_137, .ref q_138, .int 0, .int 0, .ref q_139, .ref q_140, .ref q_141, .ref q_142, .ref q_143, .ref q_144, .ref q_145, .ref q_146, .ref q_147, .ref q_148, .int 0, .int 0, .int 0, .int 0, .int 0, .int 0, .int 0, .int 0, .int 0, .int 0, .int 0, .int 0, .ref q_149, .ref q_150, .ref q_151, .ref q_152, .ref q_153, .int 0, .int 0, .ref q_154, .ref q_155]))] H := hP
        have hD : va_D A [(q_102, .inr (12, [.ref q_103, .ref q_104, .int 0, .int 0, .int 0, .int (-1), .int 0, .int 0, .int 0, .int 0, .long 0, .ref q_105, .ref q_106, .ref q_107, .ref q_108, .ref q_109, .ref q_110, .ref q_111, .ref q_112, .ref q_113, .ref q_114, .ref q_115, .ref q_116, .ref q_117, .ref q_118, .ref q_119, .ref q_120, .ref q_121, .ref q_122, .ref q_123, .ref q_124, .ref q_125, .ref q_126, .ref q_127, .ref q_128, .ref q_129, .ref q_130, .ref q_131, .ref q_132, .ref q_133, .ref q_134, .ref q_135, .ref q_136, .int 0, .int 0, .int 0, .int 0, .int 0, .int 0, .int 0, .int 0, .int 0, .ref q_137, .ref q_138, .int 0, .int 0, .ref q_139, .ref q_140, .ref q_141, .ref q_142, .ref q_143, .ref q_144, .ref q_145, .ref q_146, .ref q_147, .ref q_148, .int 0, .int 0, .int 0, .int 0, .int 0, .int 0, .int 0, .int 0, .int 0, .int 0, .int 0, .int 0, .ref q_149, .ref q_150, .ref q_151, .ref q_152, .ref q_153, .int 0, .int 0, .ref q_154, .ref q_155]))] := hD
        have hw : r_160 = (Fr 0 (xs 1)) := hw
        subst hw
        refine lv_aload_n hx hb dL_law_268 rfl (lv_at hl 1 rfl) ?_
        refine lv_aload_n hx hb dL_law_269 rfl (lv_at hl 3 rfl) ?_
        refine lv_iload_n hx hb dL_law_270 rfl (lv_at hl 0 rfl) ?_
        refine lv_iconst (v := 1) hx hb dL_law_271 (by decide) ?_
        refine lv_iadd hx hb dL_law_272 ?_
        refine p_ti (v := 1) (by decide +kernel) ?_
        refine va_sld hx hb hXs hbl hbA hS (i := 1) (by unfold vp_in; decide) dL_law_273 ?_
        refine p_ti (v := xs 1) rfl ?_
        refine k_i (wr := []) (k_V (n := 1) ⟨hx, hb, hml, hown, hT⟩ hK hP hD [0] rfl (by decide) (c_X12_end l g H.size q_102 q_103 q_104 q_105 q_106 q_107 q_108 q_109 q_110 q_111 q_112 q_113 q_114 q_115 q_116 q_117 q_118 q_119 q_120 q_121 q_122 q_123 q_124 q_125 q_126 q_127 q_128 q_129 q_130 q_131 q_132 q_133 q_134 q_135 q_136 q_137 q_138 q_139 q_140 q_141 q_142 q_143 q_144 q_145 q_146 q_147 q_148 q_149 q_150 q_151 q_152 q_153 q_154 q_155 (xs 1)) (gV bw_551 bw_552 bw_553 bw_233 bw_283) rfl rfl (by decide +kernel) ⟨by decide, by decide⟩ (ci := 12) (q0 := 0) rfl rfl (fun _ _ _ _ _ => trivial) (fun _ _ _ => trivial) rfl rfl hl.1 (Nat.le_of_ble_eq_true rfl) dL_law_274 ⟨by decide, by decide⟩) hP hD hS hA [0] [] rfl rfl (by decide) (by decide) (fun r_161 u H locs hw hP hD hS => ?_)
        have hP : va_P g.1 vwCl [] H := hP
        have hD : va_D A [] := hD
        have hw : r_161 = (Fr 0 (xs 1)) := hw
        subst hw
        refine lv_icmp_eq (tgt := 1217) hx hb dL_law_277 (by decide) (fun _ => ?_) (fun c9 => absurd (rfl) c9)
        refine lv_iinc (v := 6) (lv' := [(3, .int 6), (2, .ref q_102), (1, .ref q_1), (0, .ref b)]) hx hb dL_law_1217 hl (k := 0) rfl (by decide) (by decide) rfl (fun ls hl => ?_)
        refine lv_goto (tgt := 18) hx hb dL_law_1220 (by decide) ?_
        refine lv_iload_n hx hb dL_law_18 rfl (lv_at hl 0 rfl) ?_
        refine lv_aload_n hx hb dL_law_19 rfl (lv_at hl 3 rfl) ?_
        refine va_slen hx hb hXs hbl hbA hS dL_law_20 ?_
        refine p_ti (v := 6) rfl ?_
        refine lv_bipush (v := 6) hx hb dL_law_21 (by decide) ?_
        refine lv_isub hx hb dL_law_23 ?_
        refine p_ti (v := 0) (by decide +kernel) ?_
        refine lv_icmp_gt (tgt := 1223) hx hb dL_law_24 (by decide) (fun _ => ?_) (fun c9 => absurd (by decide) c9)
        refine lv_iconst (v := 1) hx hb dL_law_1223 (by decide) ?_
        refine va_forget (fun q hq => by have h9 := hS.2.2 q hq; rw [hAe] at h9; exact h9) ?_
        refine W.widen (k := 600000) (n := 7302249) (by decide) (by decide) ?_
        exact lw_ret hx hb hr hlocks dL_law_1224
      · obtain rfl : x_156 = 2 := eh_157
        refine lv_tableIn (tgt := 282) hx hb dL_law_33 (by decide) (by decide) (off := 249) (by decide) (by decide) ?_
        have hP : va_P g.1 vwCl [(q_1, .inr (11, [.ref q_2, .int 0, .ref q_3, .ref q_4, .ref q_5, .ref q_6, .int 0, .int 0, .ref q_7, .int 0, .ref q_8, .ref q_9, .ref q_10, .ref q_11])), (q_2, aB g 1600 z0), (q_3, .inr (5, [.int 0, .int (-1), .ref q_12, .null, .int 0, .int 0, .int 0])), (q_12, .inr (10, [.int 0, .int 0, .int 0, .long 0, .null, .int 0, .int 0, .ref q_13])), (q_5, .inr (2, [.ref q_35, .ref q_36, .ref q_37, .int 0, .ref q_38, .ref q_39, .int 9, .int 0, .ref q_40])), (q_35, .inr (3, [.int 0, .ref q_41, .ref q_42, .ref q_43, .ref q_44])), (q_43, aI g 6 z0), (q_36, .inr (0, [.int 0, .int 0, .ref q_45, .int 0, .int 0, .ref q_46, .ref q_47, .ref q_48])), (q_37, .inr (6, [.int 0, .ref q_49, .ref q_50, .ref q_51, .ref q_52, .ref q_53, .ref q_54, .ref q_55])), (q_40, aI g 4 z0), (q_6, aO g 41 (va_up (va_up f_58 0 (some q_57)) 1 (some q_56))), (q_57, .inr (9, [.int 0, .int 0, .int 0, .int 0, .int 0, .int 0, .int 0, .ref q_59, .ref q_60, .ref q_61, .ref q_62, .ref q_63, .ref q_64, .ref q_65])), (q_59, aI g 6 z0), (q_60, aI g 6 z0), (q_9, .inr (8, [.int 0, .int 0, .ref q_97, .ref q_98, .ref q_99, .ref q_100])), (q_11, .inr (1, [.int 0, .ref q_101])), (q_102, .inr (12, [.ref q_103, .ref q_104, .int 0, .int 0, .int 0, .int (-1), .int 0, .int 0, .int 0, .int 0, .long 0, .ref q_105, .ref q_106, .ref q_107, .ref q_108, .ref q_109, .ref q_110, .ref q_111, .ref q_112, .ref q_113, .ref q_114, .ref q_115, .ref q_116, .ref q_117, .ref q_118, .ref q_119, .ref q_120, .ref q_121, .ref q_122, .ref q_123, .ref q_124, .ref q_125, .ref q_126, .ref q_127, .ref q_128, .ref q_129, .ref q_130, .ref q_131, .ref q_132, .ref q_133, .ref q_134, .ref q_135, .ref q_136, .int 0, .int 0, .int 0, .int 0, .int 0, .int 0, .int 0, .int 0, .int 0, .ref q_137, .ref q_138, .int 0, .int 0, .ref q_139, .ref q_140, .ref q_141, .ref q_142, .ref q_143, .ref q_144, .ref q_145, .ref q_146, .ref q_147, .ref q_148, .int 0, .int 0, .int 0, .int 0, .int 0, .int 0, .int 0, .int 0, .int 0, .int 0, .int 0, .int 0, .ref q_149, .ref q_150, .ref q_151, .ref q_152, .ref q_153, .int 0, .int 0, .ref q_154, .ref q_155])), (q_105, aI g 2 z0), (q_106, aI g 2 z0), (q_107, aI g 2 z0), (q_108, aI g 2 z0), (q_109, aI g 2 z0), (q_110, aI g 2 (upd z0 0 9)), (q_111, aI g 2 z0), (q_126, aZ g 2 z0), (q_127, aZ g 2 z0), (q_137, aI g 374 z0), (q_155, aZ g 3 z0)] H := hP.sub [0, 1, 2, 3, 8, 9, 10, 11, 12, 13, 14, 15, 16, 17, 56, 57, 58, 60, 61, 62, 63, 64, 65, 66, 67, 68, 69, 72] rfl
        have hD : va_D A [(q_1, .inr (11, [.ref q_2, .int 0, .ref q_3, .ref q_4, .ref q_5, .ref q_6, .int 0, .int 0, .ref q_7, .int 0, .ref q_8, .ref q_9, .ref q_10, .ref q_11])), (q_2, aB g 1600 z0), (q_3, .inr (5, [.int 0, .int (-1), .ref q_12, .null, .int 0, .int 0, .int 0])), (q_12, .inr (10, [.int 0, .int 0, .int 0, .long 0, .null, .int 0, .int 0, .ref q_13])), (q_5, .inr (2, [.ref q_35, .ref q_36, .ref q_37, .int 0, .ref q_38, .ref q_39, .int 9, .int 0, .ref q_40])), (q_35, .inr (3, [.int 0, .ref q_41, .ref q_42, .ref q_43, .ref q_44])), (q_43, aI g 6 z0), (q_36, .inr (0, [.int 0, .int 0, .ref q_45, .int 0, .int 0, .ref q_46, .ref q_47, .ref q_48])), (q_37, .inr (6, [.int 0, .ref q_49, .ref q_50, .ref q_51, .ref q_52, .ref q_53, .ref q_54, .ref q_55])), (q_40, aI g 4 z0), (q_6, aO g 41 (va_up (va_up f_58 0 (some q_57)) 1 (some q_56))), (q_57, .inr (9, [.int 0, .int 0, .int 0, .int 0, .int 0, .int 0, .int 0, .ref q_59, .ref q_60, .ref q_61, .ref q_62, .ref q_63, .ref q_64, .ref q_65])), (q_59, aI g 6 z0), (q_60, aI g 6 z0), (q_9, .inr (8, [.int 0, .int 0, .ref q_97, .ref q_98, .ref q_99, .ref q_100])), (q_11, .inr (1, [.int 0, .ref q_101])), (q_102, .inr (12, [.ref q_103, .ref q_104, .int 0, .int 0, .int 0, .int (-1), .int 0, .int 0, .int 0, .int 0, .long 0, .ref q_105, .ref q_106, .ref q_107, .ref q_108, .ref q_109, .ref q_110, .ref q_111, .ref q_112, .ref q_113, .ref q_114, .ref q_115, .ref q_116, .ref q_117, .ref q_118, .ref q_119, .ref q_120, .ref q_121, .ref q_122, .ref q_123, .ref q_124, .ref q_125, .ref q_126, .ref q_127, .ref q_128, .ref q_129, .ref q_130, .ref q_131, .ref q_132, .ref q_133, .ref q_134, .ref q_135, .ref q_136, .int 0, .int 0, .int 0, .int 0, .int 0, .int 0, .int 0, .int 0, .int 0, .ref q_137, .ref q_138, .int 0, .int 0, .ref q_139, .ref q_140, .ref q_141, .ref q_142, .ref q_143, .ref q_144, .ref q_145, .ref q_146, .ref q_147, .ref q_148, .int 0, .int 0, .int 0, .int 0, .int 0, .int 0, .int 0, .int 0, .int 0, .int 0, .int 0, .int 0, .ref q_149, .ref q_150, .ref q_151, .ref q_152, .ref q_153, .int 0, .int 0, .ref q_154, .ref q_155])), (q_105, aI g 2 z0), (q_106, aI g 2 z0), (q_107, aI g 2 z0), (q_108, aI g 2 z0), (q_109, aI g 2 z0), (q_110, aI g 2 (upd z0 0 9)), (q_111, aI g 2 z0), (q_126, aZ g 2 z0), (q_127, aZ g 2 z0), (q_137, aI g 374 z0), (q_155, aZ g 3 z0)] := hD.sub [0, 1, 2, 3, 8, 9, 10, 11, 12, 13, 14, 15, 16, 17, 56, 57, 58, 60, 61, 62, 63, 64, 65, 66, 67, 68, 69, 72] (by decide) rfl
        refine lv_aload_n hx hb dL_law_282 rfl (lv_at hl 2 rfl) ?_
        refine k_i (wr := [(q_102, .inr (12, [.ref q_103, .ref q_104, .int 0, .int 0, .int 0, .int (-1), .int 0, .int 0, .int 0, .int 0, .long 0, .ref q_105, .ref q_106, .ref q_107, .ref q_108, .ref q_109, .ref q_110, .ref q_111, .ref q_112, .ref q_113, .ref q_114, .ref q_115, .ref q_116, .ref q_117, .ref q_118, .ref q_119, .ref q_120, .ref q_121, .ref q_122, .ref q_123, .ref q_124, .ref q_125, .ref q_126, .ref q_127, .ref q_128, .ref q_129, .ref q_130, .ref q_131, .ref q_132, .ref q_133, .ref q_134, .ref q_135, .ref q_136, .int 0, .int 0, .int 0, .int 0, .int 0, .int 0, .int 0, .int 0, .int 0, .ref q_137, .ref q_138, .int 0, .int 0, .ref q_139, .ref q_140, .ref q_141, .ref q_142, .ref q_143, .ref q_144, .ref q_145, .ref q_146, .ref q_147, .ref q_148, .int 0, .int 0, .int 0, .int 0, .int 0, .int 0, .int 0, .int 0, .int 0, .int 0, .int 0, .int 0, .ref q_149, .ref q_150, .ref q_151, .ref q_152, .ref q_153, .int 0, .int 0, .ref q_154, .ref q_155])), (q_105, aI g 2 z0), (q_106, aI g 2 z0), (q_107, aI g 2 z0), (q_108, aI g 2 z0), (q_109, aI g 2 z0), (q_110, aI g 2 (upd z0 0 9)), (q_111, aI g 2 z0), (q_126, aZ g 2 z0), (q_127, aZ g 2 z0), (q_137, aI g 374 z0), (q_155, aZ g 3 z0)]) (k_V (n := 0) ⟨hx, hb, hml, hown, hT⟩ hK hP hD [0, 1, 2, 3, 4, 5, 6, 7, 8, 9, 10, 11, 12, 13, 14, 15] rfl (by decide) (c_X11_code l g H.size q_1 q_2 q_3 q_4 q_5 q_6 q_7 q_8 q_9 q_10 q_11 q_12 q_13 q_35 q_36 q_37 q_38 q_39 q_40 q_41 q_42 q_43 q_44 q_45 q_46 q_47 q_48 q_49 q_50 q_51 q_52 q_53 q_54 q_55 q_56 q_57 q_59 q_60 q_61 q_62 q_63 q_64 q_65 q_97 q_98 q_99 q_100 q_101 f_58) (gV bw_554 bw_555 bw_556 bw_207 bw_174) rfl rfl (by decide +kernel) ⟨by decide, by decide⟩ (ci := 11) (q0 := 0) rfl rfl (fun _ _ _ _ _ => trivial) (fun _ _ _ => trivial) rfl rfl hl.1 (Nat.le_of_ble_eq_true rfl) dL_law_283 ⟨by decide, by decide⟩) hP hD hS hA [0, 1, 2, 3, 4, 5, 6, 7, 8, 9, 10, 11, 12, 13, 14, 15] [16, 17, 18, 19, 20, 21, 22, 23, 24, 25, 26, 27] rfl rfl (by decide) (by decide) (fun r_162 u H locs hw hP hD hS => ?_)
        have hP : va_P g.1 vwCl [(q_102, .inr (12, [.ref q_103, .ref q_104, .int 0, .int 0, .int 0, .int (-1), .int 0, .int 0, .int 0, .int 0, .long 0, .ref q_105, .ref q_106, .ref q_107, .ref q_108, .ref q_109, .ref q_110, .ref q_111, .ref q_112, .ref q_113, .ref q_114, .ref q_115, .ref q_116, .ref q_117, .ref q_118, .ref q_119, .ref q_120, .ref q_121, .ref q_122, .ref q_123, .ref q_124, .ref q_125, .ref q_126, .ref q_127, .ref q_128, .ref q_129, .ref q_130, .ref q_131, .ref q_132, .ref q_133, .ref q_134, .ref q_135, .ref q_136, .int 0, .int 0, .int 0, .int 0, .int 0, .int 0, .int 0, .int 0, .int 0, .ref q_137, .ref q_138, .int 0, .int 0, .ref q_139, .ref q_140, .ref q_141, .ref q_142, .ref q_143, .ref q_144, .ref q_145, .ref q_146, .ref q_147, .ref q_148, .int 0, .int 0, .int 0, .int 0, .int 0, .int 0, .int 0, .int 0, .int 0, .int 0, .int 0, .int 0, .ref q_149, .ref q_150, .ref q_151, .ref q_152, .ref q_153, .int 0, .int 0, .ref q_154, .ref q_155])), (q_105, aI g 2 z0), (q_106, aI g 2 z0), (q_107, aI g 2 z0), (q_108, aI g 2 z0), (q_109, aI g 2 z0), (q_110, aI g 2 (upd z0 0 9)), (q_111, aI g 2 z0), (q_126, aZ g 2 z0), (q_127, aZ g 2 z0), (q_137, aI g 374 z0), (q_155, aZ g 3 z0)] H := hP
        have hD : va_D A [(q_102, .inr (12, [.ref q_103, .ref q_104, .int 0, .int 0, .int 0, .int (-1), .int 0, .int 0, .int 0, .int 0, .long 0, .ref q_105, .ref q_106, .ref q_107, .ref q_108, .ref q_109, .ref q_110, .ref q_111, .ref q_112, .ref q_113, .ref q_114, .ref q_115, .ref q_116, .ref q_117, .ref q_118, .ref q_119, .ref q_120, .ref q_121, .ref q_122, .ref q_123, .ref q_124, .ref q_125, .ref q_126, .ref q_127, .ref q_128, .ref q_129, .ref q_130, .ref q_131, .ref q_132, .ref q_133, .ref q_134, .ref q_135, .ref q_136, .int 0, .int 0, .int 0, .int 0, .int 0, .int 0, .int 0, .int 0, .int 0, .ref q_137, .ref q_138, .int 0, .int 0, .ref q_139, .ref q_140, .ref q_141, .ref q_142, .ref q_143, .ref q_144, .ref q_145, .ref q_146, .ref q_147, .ref q_148, .int 0, .int 0, .int 0, .int 0, .int 0, .int 0, .int 0, .int 0, .int 0, .int 0, .int 0, .int 0, .ref q_149, .ref q_150, .ref q_151, .ref q_152, .ref q_153, .int 0, .int 0, .ref q_154, .ref q_155])), (q_105, aI g 2 z0), (q_106, aI g 2 z0), (q_107, aI g 2 z0), (q_108, aI g 2 z0), (q_109, aI g 2 z0), (q_110, aI g 2 (upd z0 0 9)), (q_111, aI g 2 z0), (q_126, aZ g 2 z0), (q_127, aZ g 2 z0), (q_137, aI g 374 z0), (q_155, aZ g 3 z0)] := hD
        have hw : r_162 = 0 := hw
        subst hw
        refine lv_aload_n hx hb dL_law_286 rfl (lv_at hl 1 rfl) ?_
        refine k_i (wr := []) (k_V (n := 0) ⟨hx, hb, hml, hown, hT⟩ hK hP hD [0, 1, 2, 3, 4, 5, 6, 7, 8, 9, 10, 11] rfl (by decide) (c_X12_code l g H.size q_102 q_103 q_104 q_105 q_106 q_107 q_108 q_109 q_110 q_111 q_112 q_113 q_114 q_115 q_116 q_117 q_118 q_119 q_120 q_121 q_122 q_123 q_124 q_125 q_126 q_127 q_128 q_129 q_130 q_131 q_132 q_133 q_134 q_135 q_136 q_137 q_138 q_139 q_140 q_141 q_142 q_143 q_144 q_145 q_146 q_147 q_148 q_149 q_150 q_151 q_152 q_153 q_154 q_155) (gV bw_557 bw_558 bw_559 bw_233 bw_328) rfl rfl (by decide +kernel) ⟨by decide, by decide⟩ (ci := 12) (q0 := 0) rfl rfl (fun _ _ _ _ _ => trivial) (fun _ _ _ => trivial) rfl rfl hl.1 (Nat.le_of_ble_eq_true rfl) dL_law_287 ⟨by decide, by decide⟩) hP hD hS hA [0, 1, 2, 3, 4, 5, 6, 7, 8, 9, 10, 11] [] rfl rfl (by decide) (by decide) (fun r_163 u H locs hw hP hD hS => ?_)
        have hP : va_P g.1 vwCl [] H := hP
        have hD : va_D A [] := hD
        have hw : r_163 = 0 := hw
        subst hw
        refine lv_icmp_eq (tgt := 1217) hx hb dL_law_290 (by decide) (fun _ => ?_) (fun c9 => absurd (by decide) c9)
        refine lv_iinc (v := 6) (lv' := [(3, .int 6), (2, .ref q_102), (1, .ref q_1), (0, .ref b)]) hx hb dL_law_1217 hl (k := 0) rfl (by decide) (by decide) rfl (fun ls hl => ?_)
        refine lv_goto (tgt := 18) hx hb dL_law_1220 (by decide) ?_
        refine lv_iload_n hx hb dL_law_18 rfl (lv_at hl 0 rfl) ?_
        refine lv_aload_n hx hb dL_law_19 rfl (lv_at hl 3 rfl) ?_
        refine va_slen hx hb hXs hbl hbA hS dL_law_20 ?_
        refine p_ti (v := 6) rfl ?_
        refine lv_bipush (v := 6) hx hb dL_law_21 (by decide) ?_
        refine lv_isub hx hb dL_law_23 ?_
        refine p_ti (v := 0) (by decide +kernel) ?_
        refine lv_icmp_gt (tgt := 1223) hx hb dL_law_24 (by decide) (fun _ => ?_) (fun c9 => absurd (by decide) c9)
        refine lv_iconst (v := 1) hx hb dL_law_1223 (by decide) ?_
        refine va_forget (fun q hq => by have h9 := hS.2.2 q hq; rw [hAe] at h9; exact h9) ?_
        refine W.widen (k := 600000) (n := 7302249) (by decide) (by decide) ?_
        exact lw_ret hx hb hr hlocks dL_law_1224
      · obtain rfl : x_156 = 3 := eh_157
        refine lv_tableIn (tgt := 295) hx hb dL_law_33 (by decide) (by decide) (off := 262) (by decide) (by decide) ?_
        have hP : va_P g.1 vwCl [(q_1, .inr (11, [.ref q_2, .int 0, .ref q_3, .ref q_4, .ref q_5, .ref q_6, .int 0, .int 0, .ref q_7, .int 0, .ref q_8, .ref q_9, .ref q_10, .ref q_11])), (q_3, .inr (5, [.int 0, .int (-1), .ref q_12, .null, .int 0, .int 0, .int 0])), (q_102, .inr (12, [.ref q_103, .ref q_104, .int 0, .int 0, .int 0, .int (-1), .int 0, .int 0, .int 0, .int 0, .long 0, .ref q_105, .ref q_106, .ref q_107, .ref q_108, .ref q_109, .ref q_110, .ref q_111, .ref q_112, .ref q_113, .ref q_114, .ref q_115, .ref q_116, .ref q_117, .ref q_118, .ref q_119, .ref q_120, .ref q_121, .ref q_122, .ref q_123, .ref q_124, .ref q_125, .ref q_126, .ref q_127, .ref q_128, .ref q_129, .ref q_130, .ref q_131, .ref q_132, .ref q_133, .ref q_134, .ref q_135, .ref q_136, .int 0, .int 0, .int 0, .int 0, .int 0, .int 0, .int 0, .int 0, .int 0, .ref q_137, .ref q_138, .int 0, .int 0, .ref q_139, .ref q_140, .ref q_141, .ref q_142, .ref q_143, .ref q_144, .ref q_145, .ref q_146, .ref q_147, .ref q_148, .int 0, .int 0, .int 0, .int 0, .int 0, .int 0, .int 0, .int 0, .int 0, .int 0, .int 0, .int 0, .ref q_149, .ref q_150, .ref q_151, .ref q_152, .ref q_153, .int 0, .int 0, .ref q_154, .ref q_155]))] H := hP.sub [0, 2, 58] rfl
        have hD : va_D A [(q_1, .inr (11, [.ref q_2, .int 0, .ref q_3, .ref q_4, .ref q_5, .ref q_6, .int 0, .int 0, .ref q_7, .int 0, .ref q_8, .ref q_9, .ref q_10, .ref q_11])), (q_3, .inr (5, [.int 0, .int (-1), .ref q_12, .null, .int 0, .int 0, .int 0])), (q_102, .inr (12, [.ref q_103, .ref q_104, .int 0, .int 0, .int 0, .int (-1), .int 0, .int 0, .int 0, .int 0, .long 0, .ref q_105, .ref q_106, .ref q_107, .ref q_108, .ref q_109, .ref q_110, .ref q_111, .ref q_112, .ref q_113, .ref q_114, .ref q_115, .ref q_116, .ref q_117, .ref q_118, .ref q_119, .ref q_120, .ref q_121, .ref q_122, .ref q_123, .ref q_124, .ref q_125, .ref q_126, .ref q_127, .ref q_128, .ref q_129, .ref q_130, .ref q_131, .ref q_132, .ref q_133, .ref q_134, .ref q_135, .ref q_136, .int 0, .int 0, .int 0, .int 0, .int 0, .int 0, .int 0, .int 0, .int 0, .ref q_137, .ref q_138, .int 0, .int 0, .ref q_139, .ref q_140, .ref q_141, .ref q_142, .ref q_143, .ref q_144, .ref q_145, .ref q_146, .ref q_147, .ref q_148, .int 0, .int 0, .int 0, .int 0, .int 0, .int 0, .int 0, .int 0, .int 0, .int 0, .int 0, .int 0, .ref q_149, .ref q_150, .ref q_151, .ref q_152, .ref q_153, .int 0, .int 0, .ref q_154, .ref q_155]))] := hD.sub [0, 2, 58] (by decide) rfl
        refine lv_aload_n hx hb dL_law_295 rfl (lv_at hl 2 rfl) ?_
        refine lv_aload_n hx hb dL_law_296 rfl (lv_at hl 3 rfl) ?_
        refine lv_iload_n hx hb dL_law_297 rfl (lv_at hl 0 rfl) ?_
        refine lv_iconst (v := 1) hx hb dL_law_298 (by decide) ?_
        refine lv_iadd hx hb dL_law_299 ?_
        refine p_ti (v := 1) (by decide +kernel) ?_
        refine va_sld hx hb hXs hbl hbA hS (i := 1) (by unfold vp_in; decide) dL_law_300 ?_
        refine p_ti (v := xs 1) rfl ?_
        refine k_iR (k_V (n := 1) ⟨hx, hb, hml, hown, hT⟩ hK hP hD [0, 1] rfl (by decide) (c_X11_fault l g H.size q_1 q_2 q_3 q_4 q_5 q_6 q_7 q_8 q_9 q_10 q_11 q_12 (xs 1)) (gV bw_560 bw_561 bw_562 bw_207 bw_178) rfl rfl (by decide +kernel) ⟨by decide, by decide⟩ (ci := 11) (q0 := 0) rfl rfl (fun _ _ _ _ _ => trivial) (fun _ _ _ => trivial) rfl rfl hl.1 (Nat.le_of_ble_eq_true rfl) dL_law_301 ⟨by decide, by decide⟩) hP hS hA (fun r_164 _ H locs hw hP hS => ?_)
        have hw : r_164 = (Fz 0 (xs 1)) := hw
        subst hw
        refine lv_aload_n hx hb dL_law_304 rfl (lv_at hl 1 rfl) ?_
        refine lv_aload_n hx hb dL_law_305 rfl (lv_at hl 3 rfl) ?_
        refine lv_iload_n hx hb dL_law_306 rfl (lv_at hl 0 rfl) ?_
        refine lv_iconst (v := 1) hx hb dL_law_307 (by decide) ?_
        refine lv_iadd hx hb dL_law_308 ?_
        refine p_ti (v := 1) (by decide +kernel) ?_
        refine va_sld hx hb hXs hbl hbA hS (i := 1) (by unfold vp_in; decide) dL_law_309 ?_
        refine p_ti (v := xs 1) rfl ?_
        refine k_iR (k_V (n := 1) ⟨hx, hb, hml, hown, hT⟩ hK hP hD [2] rfl (by decide) (c_X12_fault l g H.size q_102 q_103 q_104 q_105 q_106 q_107 q_108 q_109 q_110 q_111 q_112 q_113 q_114 q_115 q_116 q_117 q_118 q_119 q_120 q_121 q_122 q_123 q_124 q_125 q_126 q_127 q_128 q_129 q_130 q_131 q_132 q_133 q_134 q_135 q_136 q_137 q_138 q_139 q_140 q_141 q_142 q_143 q_144 q_145 q_146 q_147 q_148 q_149 q_150 q_151 q_152 q_153 q_154 q_155 (xs 1)) (gV bw_563 bw_564 bw_565 bw_233 bw_285) rfl rfl (by decide +kernel) ⟨by decide, by decide⟩ (ci := 12) (q0 := 0) rfl rfl (fun _ _ _ _ _ => trivial) (fun _ _ _ => trivial) rfl rfl hl.1 (Nat.le_of_ble_eq_true rfl) dL_law_310 ⟨by decide, by decide⟩) hP hS hA (fun r_165 _ H locs hw hP hS => ?_)
        have hw : r_165 = (Fz 0 (xs 1)) := hw
        subst hw
        refine lv_icmp_eq (tgt := 1217) hx hb dL_law_313 (by decide) (fun _ => ?_) (fun c9 => absurd (rfl) c9)
        refine lv_iinc (v := 6) (lv' := [(3, .int 6), (2, .ref q_102), (1, .ref q_1), (0, .ref b)]) hx hb dL_law_1217 hl (k := 0) rfl (by decide) (by decide) rfl (fun ls hl => ?_)
        refine lv_goto (tgt := 18) hx hb dL_law_1220 (by decide) ?_
        refine lv_iload_n hx hb dL_law_18 rfl (lv_at hl 0 rfl) ?_
        refine lv_aload_n hx hb dL_law_19 rfl (lv_at hl 3 rfl) ?_
        refine va_slen hx hb hXs hbl hbA hS dL_law_20 ?_
        refine p_ti (v := 6) rfl ?_
        refine lv_bipush (v := 6) hx hb dL_law_21 (by decide) ?_
        refine lv_isub hx hb dL_law_23 ?_
        refine p_ti (v := 0) (by decide +kernel) ?_
        refine lv_icmp_gt (tgt := 1223) hx hb dL_law_24 (by decide) (fun _ => ?_) (fun c9 => absurd (by decide) c9)
        refine lv_iconst (v := 1) hx hb dL_law_1223 (by decide) ?_
        refine va_forget (fun q hq => by have h9 := hS.2.2 q hq; rw [hAe] at h9; exact h9) ?_
        refine W.widen (k := 600000) (n := 7302249) (by decide) (by decide) ?_
        exact lw_ret hx hb hr hlocks dL_law_1224
      · obtain rfl : x_156 = 4 := eh_157
        refine lv_tableIn (tgt := 318) hx hb dL_law_33 (by decide) (by decide) (off := 285) (by decide) (by decide) ?_
        have hP : va_P g.1 vwCl [(q_1, .inr (11, [.ref q_2, .int 0, .ref q_3, .ref q_4, .ref q_5, .ref q_6, .int 0, .int 0, .ref q_7, .int 0, .ref q_8, .ref q_9, .ref q_10, .ref q_11])), (q_4, .inr (2, [.ref q_14, .ref q_15, .ref q_16, .int 0, .ref q_17, .ref q_18, .int 9, .int 0, .ref q_19])), (q_14, .inr (3, [.int 0, .ref q_20, .ref q_21, .ref q_22, .ref q_23])), (q_102, .inr (12, [.ref q_103, .ref q_104, .int 0, .int 0, .int 0, .int (-1), .int 0, .int 0, .int 0, .int 0, .long 0, .ref q_105, .ref q_106, .ref q_107, .ref q_108, .ref q_109, .ref q_110, .ref q_111, .ref q_112, .ref q_113, .ref q_114, .ref q_115, .ref q_116, .ref q_117, .ref q_118, .ref q_119, .ref q_120, .ref q_121, .ref q_122, .ref q_123, .ref q_124, .ref q_125, .ref q_126, .ref q_127, .ref q_128, .ref q_129, .ref q_130, .ref q_131, .ref q_132, .ref q_133, .ref q_134, .ref q_135, .ref q_136, .int 0, .int 0, .int 0, .int 0, .int 0, .int 0, .int 0, .int 0, .int 0, .ref q_137, .ref q_138, .int 0, .int 0, .ref q_139, .ref q_140, .ref q_141, .ref q_142, .ref q_143, .ref q_144, .ref q_145, .ref q_146, .ref q_147, .ref q_148, .int 0, .int 0, .int 0, .int 0, .int 0, .int 0, .int 0, .int 0, .int 0, .int 0, .int 0, .int 0, .ref q_149, .ref q_150, .ref q_151, .ref q_152, .ref q_153, .int 0, .int 0, .ref q_154, .ref q_155])), (q_105, aI g 2 z0)] H := hP.sub [0, 4, 5, 58, 60] rfl
        have hD : va_D A [(q_1, .inr (11, [.ref q_2, .int 0, .ref q_3, .ref q_4, .ref q_5, .ref q_6, .int 0, .int 0, .ref q_7, .int 0, .ref q_8, .ref q_9, .ref q_10, .ref q_11])), (q_4, .inr (2, [.ref q_14, .ref q_15, .ref q_16, .int 0, .ref q_17, .ref q_18, .int 9, .int 0, .ref q_19])), (q_14, .inr (3, [.int 0, .ref q_20, .ref q_21, .ref q_22, .ref q_23])), (q_102, .inr (12, [.ref q_103, .ref q_104, .int 0, .int 0, .int 0, .int (-1), .int 0, .int 0, .int 0, .int 0, .long 0, .ref q_105, .ref q_106, .ref q_107, .ref q_108, .ref q_109, .ref q_110, .ref q_111, .ref q_112, .ref q_113, .ref q_114, .ref q_115, .ref q_116, .ref q_117, .ref q_118, .ref q_119, .ref q_120, .ref q_121, .ref q_122, .ref q_123, .ref q_124, .ref q_125, .ref q_126, .ref q_127, .ref q_128, .ref q_129, .ref q_130, .ref q_131, .ref q_132, .ref q_133, .ref q_134, .ref q_135, .ref q_136, .int 0, .int 0, .int 0, .int 0, .int 0, .int 0, .int 0, .int 0, .int 0, .ref q_137, .ref q_138, .int 0, .int 0, .ref q_139, .ref q_140, .ref q_141, .ref q_142, .ref q_143, .ref q_144, .ref q_145, .ref q_146, .ref q_147, .ref q_148, .int 0, .int 0, .int 0, .int 0, .int 0, .int 0, .int 0, .int 0, .int 0, .int 0, .int 0, .int 0, .ref q_149, .ref q_150, .ref q_151, .ref q_152, .ref q_153, .int 0, .int 0, .ref q_154, .ref q_155])), (q_105, aI g 2 z0)] := hD.sub [0, 4, 5, 58, 60] (by decide) rfl
        refine lv_aload_n hx hb dL_law_318 rfl (lv_at hl 2 rfl) ?_
        refine lv_aload_n hx hb dL_law_319 rfl (lv_at hl 3 rfl) ?_
        refine lv_iload_n hx hb dL_law_320 rfl (lv_at hl 0 rfl) ?_
        refine lv_iconst (v := 1) hx hb dL_law_321 (by decide) ?_
        refine lv_iadd hx hb dL_law_322 ?_
        refine p_ti (v := 1) (by decide +kernel) ?_
        refine va_sld hx hb hXs hbl hbA hS (i := 1) (by unfold vp_in; decide) dL_law_323 ?_
        refine p_ti (v := xs 1) rfl ?_
        refine lv_aload_n hx hb dL_law_324 rfl (lv_at hl 3 rfl) ?_
        refine lv_iload_n hx hb dL_law_325 rfl (lv_at hl 0 rfl) ?_
        refine lv_iconst (v := 2) hx hb dL_law_326 (by decide) ?_
        refine lv_iadd hx hb dL_law_327 ?_
        refine p_ti (v := 2) (by decide +kernel) ?_
        refine va_sld hx hb hXs hbl hbA hS (i := 2) (by unfold vp_in; decide) dL_law_328 ?_
        refine p_ti (v := xs 2) rfl ?_
        refine k_iR (k_V (n := 2) ⟨hx, hb, hml, hown, hT⟩ hK hP hD [0, 1, 2] rfl (by decide) (c_X11_man l g H.size q_1 q_2 q_3 q_4 q_5 q_6 q_7 q_8 q_9 q_10 q_11 q_14 q_15 q_16 q_17 q_18 q_19 q_20 q_21 q_22 q_23 (xs 1) (xs 2)) (gV bw_566 bw_567 bw_568 bw_207 bw_19) rfl rfl (by decide +kernel) ⟨by decide, by decide⟩ (ci := 11) (q0 := 0) rfl rfl (fun _ _ _ _ _ => trivial) (fun _ _ _ => trivial) rfl rfl hl.1 (Nat.le_of_ble_eq_true rfl) dL_law_329 ⟨by decide, by decide⟩) hP hS hA (fun r_166 _ H locs hw hP hS => ?_)
        have hw : r_166 = (-2) := hw
        subst hw
        refine lv_aload_n hx hb dL_law_332 rfl (lv_at hl 1 rfl) ?_
        refine lv_aload_n hx hb dL_law_333 rfl (lv_at hl 3 rfl) ?_
        refine lv_iload_n hx hb dL_law_334 rfl (lv_at hl 0 rfl) ?_
        refine lv_iconst (v := 1) hx hb dL_law_335 (by decide) ?_
        refine lv_iadd hx hb dL_law_336 ?_
        refine p_ti (v := 1) (by decide +kernel) ?_
        refine va_sld hx hb hXs hbl hbA hS (i := 1) (by unfold vp_in; decide) dL_law_337 ?_
        refine p_ti (v := xs 1) rfl ?_
        refine lv_aload_n hx hb dL_law_338 rfl (lv_at hl 3 rfl) ?_
        refine lv_iload_n hx hb dL_law_339 rfl (lv_at hl 0 rfl) ?_
        refine lv_iconst (v := 2) hx hb dL_law_340 (by decide) ?_
        refine lv_iadd hx hb dL_law_341 ?_
        refine p_ti (v := 2) (by decide +kernel) ?_
        refine va_sld hx hb hXs hbl hbA hS (i := 2) (by unfold vp_in; decide) dL_law_342 ?_
        refine p_ti (v := xs 2) rfl ?_
        refine k_iR (k_V (n := 2) ⟨hx, hb, hml, hown, hT⟩ hK hP hD [3, 4] rfl (by decide) (c_X12_man l g H.size q_102 q_103 q_104 q_105 q_106 q_107 q_108 q_109 q_110 q_111 q_112 q_113 q_114 q_115 q_116 q_117 q_118 q_119 q_120 q_121 q_122 q_123 q_124 q_125 q_126 q_127 q_128 q_129 q_130 q_131 q_132 q_133 q_134 q_135 q_136 q_137 q_138 q_139 q_140 q_141 q_142 q_143 q_144 q_145 q_146 q_147 q_148 q_149 q_150 q_151 q_152 q_153 q_154 q_155 (xs 1) (xs 2)) (gV bw_569 bw_570 bw_571 bw_233 bw_242) rfl rfl (by decide +kernel) ⟨by decide, by decide⟩ (ci := 12) (q0 := 0) rfl rfl (fun _ _ _ _ _ => trivial) (fun _ _ _ => trivial) rfl rfl hl.1 (Nat.le_of_ble_eq_true rfl) dL_law_343 ⟨by decide, by decide⟩) hP hS hA (fun r_167 _ H locs hw hP hS => ?_)
        have hw : r_167 = (-2) := hw
        subst hw
        refine lv_icmp_eq (tgt := 1217) hx hb dL_law_346 (by decide) (fun _ => ?_) (fun c9 => absurd (by decide) c9)
        refine lv_iinc (v := 6) (lv' := [(3, .int 6), (2, .ref q_102), (1, .ref q_1), (0, .ref b)]) hx hb dL_law_1217 hl (k := 0) rfl (by decide) (by decide) rfl (fun ls hl => ?_)
        refine lv_goto (tgt := 18) hx hb dL_law_1220 (by decide) ?_
        refine lv_iload_n hx hb dL_law_18 rfl (lv_at hl 0 rfl) ?_
        refine lv_aload_n hx hb dL_law_19 rfl (lv_at hl 3 rfl) ?_
        refine va_slen hx hb hXs hbl hbA hS dL_law_20 ?_
        refine p_ti (v := 6) rfl ?_
        refine lv_bipush (v := 6) hx hb dL_law_21 (by decide) ?_
        refine lv_isub hx hb dL_law_23 ?_
        refine p_ti (v := 0) (by decide +kernel) ?_
        refine lv_icmp_gt (tgt := 1223) hx hb dL_law_24 (by decide) (fun _ => ?_) (fun c9 => absurd (by decide) c9)
        refine lv_iconst (v := 1) hx hb dL_law_1223 (by decide) ?_
        refine va_forget (fun q hq => by have h9 := hS.2.2 q hq; rw [hAe] at h9; exact h9) ?_
        refine W.widen (k := 600000) (n := 7302249) (by decide) (by decide) ?_
        exact lw_ret hx hb hr hlocks dL_law_1224
      · obtain rfl : x_156 = 5 := eh_157
        refine lv_tableIn (tgt := 351) hx hb dL_law_33 (by decide) (by decide) (off := 318) (by decide) (by decide) ?_
        have hP : va_P g.1 vwCl [(q_1, .inr (11, [.ref q_2, .int 0, .ref q_3, .ref q_4, .ref q_5, .ref q_6, .int 0, .int 0, .ref q_7, .int 0, .ref q_8, .ref q_9, .ref q_10, .ref q_11])), (q_6, aO g 41 (va_up (va_up f_58 0 (some q_57)) 1 (some q_56))), (q_57, .inr (9, [.int 0, .int 0, .int 0, .int 0, .int 0, .int 0, .int 0, .ref q_59, .ref q_60, .ref q_61, .ref q_62, .ref q_63, .ref q_64, .ref q_65])), (q_102, .inr (12, [.ref q_103, .ref q_104, .int 0, .int 0, .int 0, .int (-1), .int 0, .int 0, .int 0, .int 0, .long 0, .ref q_105, .ref q_106, .ref q_107, .ref q_108, .ref q_109, .ref q_110, .ref q_111, .ref q_112, .ref q_113, .ref q_114, .ref q_115, .ref q_116, .ref q_117, .ref q_118, .ref q_119, .ref q_120, .ref q_121, .ref q_122, .ref q_123, .ref q_124, .ref q_125, .ref q_126, .ref q_127, .ref q_128, .ref q_129, .ref q_130, .ref q_131, .ref q_132, .ref q_133, .ref q_134, .ref q_135, .ref q_136, .int 0, .int 0, .int 0, .int 0, .int 0, .int 0, .int 0, .int 0, .int 0, .ref q_137, .ref q_138, .int 0, .int 0, .ref q_139, .ref q_140, .ref q_141, .ref q_142, .ref q_143, .ref q_144, .ref q_145, .ref q_146, .ref q_147, .ref q_148, .int 0, .int 0, .int 0, .int 0, .int 0, .int 0, .int 0, .int 0, .int 0, .int 0, .int 0, .int 0, .ref q_149, .ref q_150, .ref q_151, .ref q_152, .ref q_153, .int 0, .int 0, .ref q_154, .ref q_155])), (q_137, aI g 374 z0)] H := hP.sub [0, 14, 15, 58, 69] rfl
        have hD : va_D A [(q_1, .inr (11, [.ref q_2, .int 0, .ref q_3, .ref q_4, .ref q_5, .ref q_6, .int 0, .int 0, .ref q_7, .int 0, .ref q_8, .ref q_9, .ref q_10, .ref q_11])), (q_6, aO g 41 (va_up (va_up f_58 0 (some q_57)) 1 (some q_56))), (q_57, .inr (9, [.int 0, .int 0, .int 0, .int 0, .int 0, .int 0, .int 0, .ref q_59, .ref q_60, .ref q_61, .ref q_62, .ref q_63, .ref q_64, .ref q_65])), (q_102, .inr (12, [.ref q_103, .ref q_104, .int 0, .int 0, .int 0, .int (-1), .int 0, .int 0, .int 0, .int 0, .long 0, .ref q_105, .ref q_106, .ref q_107, .ref q_108, .ref q_109, .ref q_110, .ref q_111, .ref q_112, .ref q_113, .ref q_114, .ref q_115, .ref q_116, .ref q_117, .ref q_118, .ref q_119, .ref q_120, .ref q_121, .ref q_122, .ref q_123, .ref q_124, .ref q_125, .ref q_126, .ref q_127, .ref q_128, .ref q_129, .ref q_130, .ref q_131, .ref q_132, .ref q_133, .ref q_134, .ref q_135, .ref q_136, .int 0, .int 0, .int 0, .int 0, .int 0, .int 0, .int 0, .int 0, .int 0, .ref q_137, .ref q_138, .int 0, .int 0, .ref q_139, .ref q_140, .ref q_141, .ref q_142, .ref q_143, .ref q_144, .ref q_145, .ref q_146, .ref q_147, .ref q_148, .int 0, .int 0, .int 0, .int 0, .int 0, .int 0, .int 0, .int 0, .int 0, .int 0, .int 0, .int 0, .ref q_149, .ref q_150, .ref q_151, .ref q_152, .ref q_153, .int 0, .int 0, .ref q_154, .ref q_155])), (q_137, aI g 374 z0)] := hD.sub [0, 14, 15, 58, 69] (by decide) rfl
        refine lv_aload_n hx hb dL_law_351 rfl (lv_at hl 2 rfl) ?_
        refine lv_aload_n hx hb dL_law_352 rfl (lv_at hl 3 rfl) ?_
        refine lv_iload_n hx hb dL_law_353 rfl (lv_at hl 0 rfl) ?_
        refine lv_iconst (v := 1) hx hb dL_law_354 (by decide) ?_
        refine lv_iadd hx hb dL_law_355 ?_
        refine p_ti (v := 1) (by decide +kernel) ?_
        refine va_sld hx hb hXs hbl hbA hS (i := 1) (by unfold vp_in; decide) dL_law_356 ?_
        refine p_ti (v := xs 1) rfl ?_
        refine lv_aload_n hx hb dL_law_357 rfl (lv_at hl 3 rfl) ?_
        refine lv_iload_n hx hb dL_law_358 rfl (lv_at hl 0 rfl) ?_
        refine lv_iconst (v := 2) hx hb dL_law_359 (by decide) ?_
        refine lv_iadd hx hb dL_law_360 ?_
        refine p_ti (v := 2) (by decide +kernel) ?_
        refine va_sld hx hb hXs hbl hbA hS (i := 2) (by unfold vp_in; decide) dL_law_361 ?_
        refine p_ti (v := xs 2) rfl ?_
        refine k_iR (k_V (n := 2) ⟨hx, hb, hml, hown, hT⟩ hK hP hD [0, 1, 2] rfl (by decide) (c_X11_duel l g H.size q_1 q_2 q_3 q_4 q_5 q_6 q_7 q_8 q_9 q_10 q_11 q_56 q_57 q_59 q_60 q_61 q_62 q_63 q_64 q_65 f_58 (xs 1) (xs 2)) (gV bw_572 bw_573 bw_574 bw_207 bw_26) rfl rfl (by decide +kernel) ⟨by decide, by decide⟩ (ci := 11) (q0 := 0) rfl rfl (fun _ _ _ _ _ => trivial) (fun _ _ _ => trivial) rfl rfl hl.1 (Nat.le_of_ble_eq_true rfl) dL_law_362 ⟨by decide, by decide⟩) hP hS hA (fun r_168 _ H locs hw hP hS => ?_)
        have hw : r_168 = (-2) := hw
        subst hw
        refine lv_aload_n hx hb dL_law_365 rfl (lv_at hl 1 rfl) ?_
        refine lv_aload_n hx hb dL_law_366 rfl (lv_at hl 3 rfl) ?_
        refine lv_iload_n hx hb dL_law_367 rfl (lv_at hl 0 rfl) ?_
        refine lv_iconst (v := 1) hx hb dL_law_368 (by decide) ?_
        refine lv_iadd hx hb dL_law_369 ?_
        refine p_ti (v := 1) (by decide +kernel) ?_
        refine va_sld hx hb hXs hbl hbA hS (i := 1) (by unfold vp_in; decide) dL_law_370 ?_
        refine p_ti (v := xs 1) rfl ?_
        refine lv_aload_n hx hb dL_law_371 rfl (lv_at hl 3 rfl) ?_
        refine lv_iload_n hx hb dL_law_372 rfl (lv_at hl 0 rfl) ?_
        refine lv_iconst (v := 2) hx hb dL_law_373 (by decide) ?_
        refine lv_iadd hx hb dL_law_374 ?_
        refine p_ti (v := 2) (by decide +kernel) ?_
        refine va_sld hx hb hXs hbl hbA hS (i := 2) (by unfold vp_in; decide) dL_law_375 ?_
        refine p_ti (v := xs 2) rfl ?_
        refine k_iR (k_V (n := 2) ⟨hx, hb, hml, hown, hT⟩ hK hP hD [3, 4] rfl (by decide) (c_X12_duel l g H.size q_102 q_103 q_104 q_105 q_106 q_107 q_108 q_109 q_110 q_111 q_112 q_113 q_114 q_115 q_116 q_117 q_118 q_119 q_120 q_121 q_122 q_123 q_124 q_125 q_126 q_127 q_128 q_129 q_130 q_131 q_132 q_133 q_134 q_135 q_136 q_137 q_138 q_139 q_140 q_141 q_142 q_143 q_144 q_145 q_146 q_147 q_148 q_149 q_150 q_151 q_152 q_153 q_154 q_155 (xs 1) (xs 2)) (gV bw_575 bw_576 bw_577 bw_233 bw_243) rfl rfl (by decide +kernel) ⟨by decide, by decide⟩ (ci := 12) (q0 := 0) rfl rfl (fun _ _ _ _ _ => trivial) (fun _ _ _ => trivial) rfl rfl hl.1 (Nat.le_of_ble_eq_true rfl) dL_law_376 ⟨by decide, by decide⟩) hP hS hA (fun r_169 _ H locs hw hP hS => ?_)
        have hw : r_169 = (-2) := hw
        subst hw
        refine lv_icmp_eq (tgt := 1217) hx hb dL_law_379 (by decide) (fun _ => ?_) (fun c9 => absurd (by decide) c9)
        refine lv_iinc (v := 6) (lv' := [(3, .int 6), (2, .ref q_102), (1, .ref q_1), (0, .ref b)]) hx hb dL_law_1217 hl (k := 0) rfl (by decide) (by decide) rfl (fun ls hl => ?_)
        refine lv_goto (tgt := 18) hx hb dL_law_1220 (by decide) ?_
        refine lv_iload_n hx hb dL_law_18 rfl (lv_at hl 0 rfl) ?_
        refine lv_aload_n hx hb dL_law_19 rfl (lv_at hl 3 rfl) ?_
        refine va_slen hx hb hXs hbl hbA hS dL_law_20 ?_
        refine p_ti (v := 6) rfl ?_
        refine lv_bipush (v := 6) hx hb dL_law_21 (by decide) ?_
        refine lv_isub hx hb dL_law_23 ?_
        refine p_ti (v := 0) (by decide +kernel) ?_
        refine lv_icmp_gt (tgt := 1223) hx hb dL_law_24 (by decide) (fun _ => ?_) (fun c9 => absurd (by decide) c9)
        refine lv_iconst (v := 1) hx hb dL_law_1223 (by decide) ?_
        refine va_forget (fun q hq => by have h9 := hS.2.2 q hq; rw [hAe] at h9; exact h9) ?_
        refine W.widen (k := 600000) (n := 7302249) (by decide) (by decide) ?_
        exact lw_ret hx hb hr hlocks dL_law_1224
      · obtain rfl : x_156 = 6 := eh_157
        refine lv_tableIn (tgt := 384) hx hb dL_law_33 (by decide) (by decide) (off := 351) (by decide) (by decide) ?_
        have hP : va_P g.1 vwCl [(q_1, .inr (11, [.ref q_2, .int 0, .ref q_3, .ref q_4, .ref q_5, .ref q_6, .int 0, .int 0, .ref q_7, .int 0, .ref q_8, .ref q_9, .ref q_10, .ref q_11])), (q_4, .inr (2, [.ref q_14, .ref q_15, .ref q_16, .int 0, .ref q_17, .ref q_18, .int 9, .int 0, .ref q_19])), (q_16, .inr (6, [.int 0, .ref q_28, .ref q_29, .ref q_30, .ref q_31, .ref q_32, .ref q_33, .ref q_34])), (q_102, .inr (12, [.ref q_103, .ref q_104, .int 0, .int 0, .int 0, .int (-1), .int 0, .int 0, .int 0, .int 0, .long 0, .ref q_105, .ref q_106, .ref q_107, .ref q_108, .ref q_109, .ref q_110, .ref q_111, .ref q_112, .ref q_113, .ref q_114, .ref q_115, .ref q_116, .ref q_117, .ref q_118, .ref q_119, .ref q_120, .ref q_121, .ref q_122, .ref q_123, .ref q_124, .ref q_125, .ref q_126, .ref q_127, .ref q_128, .ref q_129, .ref q_130, .ref q_131, .ref q_132, .ref q_133, .ref q_134, .ref q_135, .ref q_136, .int 0, .int 0, .int 0, .int 0, .int 0, .int 0, .int 0, .int 0, .int 0, .ref q_137, .ref q_138, .int 0, .int 0, .ref q_139, .ref q_140, .ref q_141, .ref q_142, .ref q_143, .ref q_144, .ref q_145, .ref q_146, .ref q_147, .ref q_148, .int 0, .int 0, .int 0, .int 0, .int 0, .int 0, .int 0, .int 0, .int 0, .int 0, .int 0, .int 0, .ref q_149, .ref q_150, .ref q_151, .ref q_152, .ref q_153, .int 0, .int 0, .ref q_154, .ref q_155])), (q_107, aI g 2 z0)] H := hP.sub [0, 4, 7, 58, 62] rfl
        have hD : va_D A [(q_1, .inr (11, [.ref q_2, .int 0, .ref q_3, .ref q_4, .ref q_5, .ref q_6, .int 0, .int 0, .ref q_7, .int 0, .ref q_8, .ref q_9, .ref q_10, .ref q_11])), (q_4, .inr (2, [.ref q_14, .ref q_15, .ref q_16, .int 0, .ref q_17, .ref q_18, .int 9, .int 0, .ref q_19])), (q_16, .inr (6, [.int 0, .ref q_28, .ref q_29, .ref q_30, .ref q_31, .ref q_32, .ref q_33, .ref q_34])), (q_102, .inr (12, [.ref q_103, .ref q_104, .int 0, .int 0, .int 0, .int (-1), .int 0, .int 0, .int 0, .int 0, .long 0, .ref q_105, .ref q_106, .ref q_107, .ref q_108, .ref q_109, .ref q_110, .ref q_111, .ref q_112, .ref q_113, .ref q_114, .ref q_115, .ref q_116, .ref q_117, .ref q_118, .ref q_119, .ref q_120, .ref q_121, .ref q_122, .ref q_123, .ref q_124, .ref q_125, .ref q_126, .ref q_127, .ref q_128, .ref q_129, .ref q_130, .ref q_131, .ref q_132, .ref q_133, .ref q_134, .ref q_135, .ref q_136, .int 0, .int 0, .int 0, .int 0, .int 0, .int 0, .int 0, .int 0, .int 0, .ref q_137, .ref q_138, .int 0, .int 0, .ref q_139, .ref q_140, .ref q_141, .ref q_142, .ref q_143, .ref q_144, .ref q_145, .ref q_146, .ref q_147, .ref q_148, .int 0, .int 0, .int 0, .int 0, .int 0, .int 0, .int 0, .int 0, .int 0, .int 0, .int 0, .int 0, .ref q_149, .ref q_150, .ref q_151, .ref q_152, .ref q_153, .int 0, .int 0, .ref q_154, .ref q_155])), (q_107, aI g 2 z0)] := hD.sub [0, 4, 7, 58, 62] (by decide) rfl
        refine lv_aload_n hx hb dL_law_384 rfl (lv_at hl 2 rfl) ?_
        refine lv_aload_n hx hb dL_law_385 rfl (lv_at hl 3 rfl) ?_
        refine lv_iload_n hx hb dL_law_386 rfl (lv_at hl 0 rfl) ?_
        refine lv_iconst (v := 1) hx hb dL_law_387 (by decide) ?_
        refine lv_iadd hx hb dL_law_388 ?_
        refine p_ti (v := 1) (by decide +kernel) ?_
        refine va_sld hx hb hXs hbl hbA hS (i := 1) (by unfold vp_in; decide) dL_law_389 ?_
        refine p_ti (v := xs 1) rfl ?_
        refine lv_aload_n hx hb dL_law_390 rfl (lv_at hl 3 rfl) ?_
        refine lv_iload_n hx hb dL_law_391 rfl (lv_at hl 0 rfl) ?_
        refine lv_iconst (v := 2) hx hb dL_law_392 (by decide) ?_
        refine lv_iadd hx hb dL_law_393 ?_
        refine p_ti (v := 2) (by decide +kernel) ?_
        refine va_sld hx hb hXs hbl hbA hS (i := 2) (by unfold vp_in; decide) dL_law_394 ?_
        refine p_ti (v := xs 2) rfl ?_
        refine k_iR (k_V (n := 2) ⟨hx, hb, hml, hown, hT⟩ hK hP hD [0, 1, 2] rfl (by decide) (c_X11_reason l g H.size q_1 q_2 q_3 q_4 q_5 q_6 q_7 q_8 q_9 q_10 q_11 q_14 q_15 q_16 q_17 q_18 q_19 q_28 q_29 q_30 q_31 q_32 q_33 q_34 (xs 1) (xs 2)) (gV bw_578 bw_579 bw_580 bw_207 bw_32) rfl rfl (by decide +kernel) ⟨by decide, by decide⟩ (ci := 11) (q0 := 0) rfl rfl (fun _ _ _ _ _ => trivial) (fun _ _ _ => trivial) rfl rfl hl.1 (Nat.le_of_ble_eq_true rfl) dL_law_395 ⟨by decide, by decide⟩) hP hS hA (fun r_170 _ H locs hw hP hS => ?_)
        have hw : r_170 = (-2) := hw
        subst hw
        refine lv_aload_n hx hb dL_law_398 rfl (lv_at hl 1 rfl) ?_
        refine lv_aload_n hx hb dL_law_399 rfl (lv_at hl 3 rfl) ?_
        refine lv_iload_n hx hb dL_law_400 rfl (lv_at hl 0 rfl) ?_
        refine lv_iconst (v := 1) hx hb dL_law_401 (by decide) ?_
        refine lv_iadd hx hb dL_law_402 ?_
        refine p_ti (v := 1) (by decide +kernel) ?_
        refine va_sld hx hb hXs hbl hbA hS (i := 1) (by unfold vp_in; decide) dL_law_403 ?_
        refine p_ti (v := xs 1) rfl ?_
        refine lv_aload_n hx hb dL_law_404 rfl (lv_at hl 3 rfl) ?_
        refine lv_iload_n hx hb dL_law_405 rfl (lv_at hl 0 rfl) ?_
        refine lv_iconst (v := 2) hx hb dL_law_406 (by decide) ?_
        refine lv_iadd hx hb dL_law_407 ?_
        refine p_ti (v := 2) (by decide +kernel) ?_
        refine va_sld hx hb hXs hbl hbA hS (i := 2) (by unfold vp_in; decide) dL_law_408 ?_
        refine p_ti (v := xs 2) rfl ?_
        refine k_iR (k_V (n := 2) ⟨hx, hb, hml, hown, hT⟩ hK hP hD [3, 4] rfl (by decide) (c_X12_reason l g H.size q_102 q_103 q_104 q_105 q_106 q_107 q_108 q_109 q_110 q_111 q_112 q_113 q_114 q_115 q_116 q_117 q_118 q_119 q_120 q_121 q_122 q_123 q_124 q_125 q_126 q_127 q_128 q_129 q_130 q_131 q_132 q_133 q_134 q_135 q_136 q_137 q_138 q_139 q_140 q_141 q_142 q_143 q_144 q_145 q_146 q_147 q_148 q_149 q_150 q_151 q_152 q_153 q_154 q_155 (xs 1) (xs 2)) (gV bw_581 bw_582 bw_583 bw_233 bw_247) rfl rfl (by decide +kernel) ⟨by decide, by decide⟩ (ci := 12) (q0 := 0) rfl rfl (fun _ _ _ _ _ => trivial) (fun _ _ _ => trivial) rfl rfl hl.1 (Nat.le_of_ble_eq_true rfl) dL_law_409 ⟨by decide, by decide⟩) hP hS hA (fun r_171 _ H locs hw hP hS => ?_)
        have hw : r_171 = (-2) := hw
        subst hw
        refine lv_icmp_eq (tgt := 1217) hx hb dL_law_412 (by decide) (fun _ => ?_) (fun c9 => absurd (by decide) c9)
        refine lv_iinc (v := 6) (lv' := [(3, .int 6), (2, .ref q_102), (1, .ref q_1), (0, .ref b)]) hx hb dL_law_1217 hl (k := 0) rfl (by decide) (by decide) rfl (fun ls hl => ?_)
        refine lv_goto (tgt := 18) hx hb dL_law_1220 (by decide) ?_
        refine lv_iload_n hx hb dL_law_18 rfl (lv_at hl 0 rfl) ?_
        refine lv_aload_n hx hb dL_law_19 rfl (lv_at hl 3 rfl) ?_
        refine va_slen hx hb hXs hbl hbA hS dL_law_20 ?_
        refine p_ti (v := 6) rfl ?_
        refine lv_bipush (v := 6) hx hb dL_law_21 (by decide) ?_
        refine lv_isub hx hb dL_law_23 ?_
        refine p_ti (v := 0) (by decide +kernel) ?_
        refine lv_icmp_gt (tgt := 1223) hx hb dL_law_24 (by decide) (fun _ => ?_) (fun c9 => absurd (by decide) c9)
        refine lv_iconst (v := 1) hx hb dL_law_1223 (by decide) ?_
        refine va_forget (fun q hq => by have h9 := hS.2.2 q hq; rw [hAe] at h9; exact h9) ?_
        refine W.widen (k := 600000) (n := 7302249) (by decide) (by decide) ?_
        exact lw_ret hx hb hr hlocks dL_law_1224
      · obtain rfl : x_156 = 7 := eh_157
        refine lv_tableIn (tgt := 417) hx hb dL_law_33 (by decide) (by decide) (off := 384) (by decide) (by decide) ?_
        have hP : va_P g.1 vwCl [(q_1, .inr (11, [.ref q_2, .int 0, .ref q_3, .ref q_4, .ref q_5, .ref q_6, .int 0, .int 0, .ref q_7, .int 0, .ref q_8, .ref q_9, .ref q_10, .ref q_11])), (q_6, aO g 41 (va_up (va_up f_58 0 (some q_57)) 1 (some q_56))), (q_57, .inr (9, [.int 0, .int 0, .int 0, .int 0, .int 0, .int 0, .int 0, .ref q_59, .ref q_60, .ref q_61, .ref q_62, .ref q_63, .ref q_64, .ref q_65])), (q_102, .inr (12, [.ref q_103, .ref q_104, .int 0, .int 0, .int 0, .int (-1), .int 0, .int 0, .int 0, .int 0, .long 0, .ref q_105, .ref q_106, .ref q_107, .ref q_108, .ref q_109, .ref q_110, .ref q_111, .ref q_112, .ref q_113, .ref q_114, .ref q_115, .ref q_116, .ref q_117, .ref q_118, .ref q_119, .ref q_120, .ref q_121, .ref q_122, .ref q_123, .ref q_124, .ref q_125, .ref q_126, .ref q_127, .ref q_128, .ref q_129, .ref q_130, .ref q_131, .ref q_132, .ref q_133, .ref q_134, .ref q_135, .ref q_136, .int 0, .int 0, .int 0, .int 0, .int 0, .int 0, .int 0, .int 0, .int 0, .ref q_137, .ref q_138, .int 0, .int 0, .ref q_139, .ref q_140, .ref q_141, .ref q_142, .ref q_143, .ref q_144, .ref q_145, .ref q_146, .ref q_147, .ref q_148, .int 0, .int 0, .int 0, .int 0, .int 0, .int 0, .int 0, .int 0, .int 0, .int 0, .int 0, .int 0, .ref q_149, .ref q_150, .ref q_151, .ref q_152, .ref q_153, .int 0, .int 0, .ref q_154, .ref q_155])), (q_137, aI g 374 z0)] H := hP.sub [0, 14, 15, 58, 69] rfl
        have hD : va_D A [(q_1, .inr (11, [.ref q_2, .int 0, .ref q_3, .ref q_4, .ref q_5, .ref q_6, .int 0, .int 0, .ref q_7, .int 0, .ref q_8, .ref q_9, .ref q_10, .ref q_11])), (q_6, aO g 41 (va_up (va_up f_58 0 (some q_57)) 1 (some q_56))), (q_57, .inr (9, [.int 0, .int 0, .int 0, .int 0, .int 0, .int 0, .int 0, .ref q_59, .ref q_60, .ref q_61, .ref q_62, .ref q_63, .ref q_64, .ref q_65])), (q_102, .inr (12, [.ref q_103, .ref q_104, .int 0, .int 0, .int 0, .int (-1), .int 0, .int 0, .int 0, .int 0, .long 0, .ref q_105, .ref q_106, .ref q_107, .ref q_108, .ref q_109, .ref q_110, .ref q_111, .ref q_112, .ref q_113, .ref q_114, .ref q_115, .ref q_116, .ref q_117, .ref q_118, .ref q_119, .ref q_120, .ref q_121, .ref q_122, .ref q_123, .ref q_124, .ref q_125, .ref q_126, .ref q_127, .ref q_128, .ref q_129, .ref q_130, .ref q_131, .ref q_132, .ref q_133, .ref q_134, .ref q_135, .ref q_136, .int 0, .int 0, .int 0, .int 0, .int 0, .int 0, .int 0, .int 0, .int 0, .ref q_137, .ref q_138, .int 0, .int 0, .ref q_139, .ref q_140, .ref q_141, .ref q_142, .ref q_143, .ref q_144, .ref q_145, .ref q_146, .ref q_147, .ref q_148, .int 0, .int 0, .int 0, .int 0, .int 0, .int 0, .int 0, .int 0, .int 0, .int 0, .int 0, .int 0, .ref q_149, .ref q_150, .ref q_151, .ref q_152, .ref q_153, .int 0, .int 0, .ref q_154, .ref q_155])), (q_137, aI g 374 z0)] := hD.sub [0, 14, 15, 58, 69] (by decide) rfl
        refine lv_aload_n hx hb dL_law_417 rfl (lv_at hl 2 rfl) ?_
        refine lv_aload_n hx hb dL_law_418 rfl (lv_at hl 3 rfl) ?_
        refine lv_iload_n hx hb dL_law_419 rfl (lv_at hl 0 rfl) ?_
        refine lv_iconst (v := 1) hx hb dL_law_420 (by decide) ?_
        refine lv_iadd hx hb dL_law_421 ?_
        refine p_ti (v := 1) (by decide +kernel) ?_
        refine va_sld hx hb hXs hbl hbA hS (i := 1) (by unfold vp_in; decide) dL_law_422 ?_
        refine p_ti (v := xs 1) rfl ?_
        refine lv_aload_n hx hb dL_law_423 rfl (lv_at hl 3 rfl) ?_
        refine lv_iload_n hx hb dL_law_424 rfl (lv_at hl 0 rfl) ?_
        refine lv_iconst (v := 2) hx hb dL_law_425 (by decide) ?_
        refine lv_iadd hx hb dL_law_426 ?_
        refine p_ti (v := 2) (by decide +kernel) ?_
        refine va_sld hx hb hXs hbl hbA hS (i := 2) (by unfold vp_in; decide) dL_law_427 ?_
        refine p_ti (v := xs 2) rfl ?_
        refine lv_aload_n hx hb dL_law_428 rfl (lv_at hl 3 rfl) ?_
        refine lv_iload_n hx hb dL_law_429 rfl (lv_at hl 0 rfl) ?_
        refine lv_iconst (v := 3) hx hb dL_law_430 (by decide) ?_
        refine lv_iadd hx hb dL_law_431 ?_
        refine p_ti (v := 3) (by decide +kernel) ?_
        refine va_sld hx hb hXs hbl hbA hS (i := 3) (by unfold vp_in; decide) dL_law_432 ?_
        refine p_ti (v := xs 3) rfl ?_
        refine k_iR (k_V (n := 3) ⟨hx, hb, hml, hown, hT⟩ hK hP hD [0, 1, 2] rfl (by decide) (c_X11_worth l g H.size q_1 q_2 q_3 q_4 q_5 q_6 q_7 q_8 q_9 q_10 q_11 q_56 q_57 q_59 q_60 q_61 q_62 q_63 q_64 q_65 f_58 (xs 1) (xs 2) (xs 3)) (gV bw_584 bw_585 bw_586 bw_207 bw_33) rfl rfl (by decide +kernel) ⟨by decide, by decide⟩ (ci := 11) (q0 := 0) rfl rfl (fun _ _ _ _ _ => trivial) (fun _ _ _ => trivial) rfl rfl hl.1 (Nat.le_of_ble_eq_true rfl) dL_law_433 ⟨by decide, by decide⟩) hP hS hA (fun r_172 _ H locs hw hP hS => ?_)
        have hw : r_172 = (-1) := hw
        subst hw
        refine lv_aload_n hx hb dL_law_436 rfl (lv_at hl 1 rfl) ?_
        refine lv_aload_n hx hb dL_law_437 rfl (lv_at hl 3 rfl) ?_
        refine lv_iload_n hx hb dL_law_438 rfl (lv_at hl 0 rfl) ?_
        refine lv_iconst (v := 1) hx hb dL_law_439 (by decide) ?_
        refine lv_iadd hx hb dL_law_440 ?_
        refine p_ti (v := 1) (by decide +kernel) ?_
        refine va_sld hx hb hXs hbl hbA hS (i := 1) (by unfold vp_in; decide) dL_law_441 ?_
        refine p_ti (v := xs 1) rfl ?_
        refine lv_aload_n hx hb dL_law_442 rfl (lv_at hl 3 rfl) ?_
        refine lv_iload_n hx hb dL_law_443 rfl (lv_at hl 0 rfl) ?_
        refine lv_iconst (v := 2) hx hb dL_law_444 (by decide) ?_
        refine lv_iadd hx hb dL_law_445 ?_
        refine p_ti (v := 2) (by decide +kernel) ?_
        refine va_sld hx hb hXs hbl hbA hS (i := 2) (by unfold vp_in; decide) dL_law_446 ?_
        refine p_ti (v := xs 2) rfl ?_
        refine lv_aload_n hx hb dL_law_447 rfl (lv_at hl 3 rfl) ?_
        refine lv_iload_n hx hb dL_law_448 rfl (lv_at hl 0 rfl) ?_
        refine lv_iconst (v := 3) hx hb dL_law_449 (by decide) ?_
        refine lv_iadd hx hb dL_law_450 ?_
        refine p_ti (v := 3) (by decide +kernel) ?_
        refine va_sld hx hb hXs hbl hbA hS (i := 3) (by unfold vp_in; decide) dL_law_451 ?_
        refine p_ti (v := xs 3) rfl ?_
        refine k_iR (k_V (n := 3) ⟨hx, hb, hml, hown, hT⟩ hK hP hD [3, 4] rfl (by decide) (c_X12_worth l g H.size q_102 q_103 q_104 q_105 q_106 q_107 q_108 q_109 q_110 q_111 q_112 q_113 q_114 q_115 q_116 q_117 q_118 q_119 q_120 q_121 q_122 q_123 q_124 q_125 q_126 q_127 q_128 q_129 q_130 q_131 q_132 q_133 q_134 q_135 q_136 q_137 q_138 q_139 q_140 q_141 q_142 q_143 q_144 q_145 q_146 q_147 q_148 q_149 q_150 q_151 q_152 q_153 q_154 q_155 (xs 1) (xs 2) (xs 3)) (gV bw_587 bw_588 bw_589 bw_233 bw_248) rfl rfl (by decide +kernel) ⟨by decide, by decide⟩ (ci := 12) (q0 := 0) rfl rfl (fun _ _ _ _ _ => trivial) (fun _ _ _ => trivial) rfl rfl hl.1 (Nat.le_of_ble_eq_true rfl) dL_law_452 ⟨by decide, by decide⟩) hP hS hA (fun r_173 _ H locs hw hP hS => ?_)
        have hw : r_173 = (-1) := hw
        subst hw
        refine lv_icmp_eq (tgt := 1217) hx hb dL_law_455 (by decide) (fun _ => ?_) (fun c9 => absurd (by decide) c9)
        refine lv_iinc (v := 6) (lv' := [(3, .int 6), (2, .ref q_102), (1, .ref q_1), (0, .ref b)]) hx hb dL_law_1217 hl (k := 0) rfl (by decide) (by decide) rfl (fun ls hl => ?_)
        refine lv_goto (tgt := 18) hx hb dL_law_1220 (by decide) ?_
        refine lv_iload_n hx hb dL_law_18 rfl (lv_at hl 0 rfl) ?_
        refine lv_aload_n hx hb dL_law_19 rfl (lv_at hl 3 rfl) ?_
        refine va_slen hx hb hXs hbl hbA hS dL_law_20 ?_
        refine p_ti (v := 6) rfl ?_
        refine lv_bipush (v := 6) hx hb dL_law_21 (by decide) ?_
        refine lv_isub hx hb dL_law_23 ?_
        refine p_ti (v := 0) (by decide +kernel) ?_
        refine lv_icmp_gt (tgt := 1223) hx hb dL_law_24 (by decide) (fun _ => ?_) (fun c9 => absurd (by decide) c9)
        refine lv_iconst (v := 1) hx hb dL_law_1223 (by decide) ?_
        refine va_forget (fun q hq => by have h9 := hS.2.2 q hq; rw [hAe] at h9; exact h9) ?_
        refine W.widen (k := 600000) (n := 7302249) (by decide) (by decide) ?_
        exact lw_ret hx hb hr hlocks dL_law_1224
      · obtain rfl : x_156 = 8 := eh_157
        refine lv_tableIn (tgt := 460) hx hb dL_law_33 (by decide) (by decide) (off := 427) (by decide) (by decide) ?_
        have hP : va_P g.1 vwCl [(q_1, .inr (11, [.ref q_2, .int 0, .ref q_3, .ref q_4, .ref q_5, .ref q_6, .int 0, .int 0, .ref q_7, .int 0, .ref q_8, .ref q_9, .ref q_10, .ref q_11])), (q_6, aO g 41 (va_up (va_up f_58 0 (some q_57)) 1 (some q_56))), (q_57, .inr (9, [.int 0, .int 0, .int 0, .int 0, .int 0, .int 0, .int 0, .ref q_59, .ref q_60, .ref q_61, .ref q_62, .ref q_63, .ref q_64, .ref q_65])), (q_102, .inr (12, [.ref q_103, .ref q_104, .int 0, .int 0, .int 0, .int (-1), .int 0, .int 0, .int 0, .int 0, .long 0, .ref q_105, .ref q_106, .ref q_107, .ref q_108, .ref q_109, .ref q_110, .ref q_111, .ref q_112, .ref q_113, .ref q_114, .ref q_115, .ref q_116, .ref q_117, .ref q_118, .ref q_119, .ref q_120, .ref q_121, .ref q_122, .ref q_123, .ref q_124, .ref q_125, .ref q_126, .ref q_127, .ref q_128, .ref q_129, .ref q_130, .ref q_131, .ref q_132, .ref q_133, .ref q_134, .ref q_135, .ref q_136, .int 0, .int 0, .int 0, .int 0, .int 0, .int 0, .int 0, .int 0, .int 0, .ref q_137, .ref q_138, .int 0, .int 0, .ref q_139, .ref q_140, .ref q_141, .ref q_142, .ref q_143, .ref q_144, .ref q_145, .ref q_146, .ref q_147, .ref q_148, .int 0, .int 0, .int 0, .int 0, .int 0, .int 0, .int 0, .int 0, .int 0, .int 0, .int 0, .int 0, .ref q_149, .ref q_150, .ref q_151, .ref q_152, .ref q_153, .int 0, .int 0, .ref q_154, .ref q_155])), (q_137, aI g 374 z0)] H := hP.sub [0, 14, 15, 58, 69] rfl
        have hD : va_D A [(q_1, .inr (11, [.ref q_2, .int 0, .ref q_3, .ref q_4, .ref q_5, .ref q_6, .int 0, .int 0, .ref q_7, .int 0, .ref q_8, .ref q_9, .ref q_10, .ref q_11])), (q_6, aO g 41 (va_up (va_up f_58 0 (some q_57)) 1 (some q_56))), (q_57, .inr (9, [.int 0, .int 0, .int 0, .int 0, .int 0, .int 0, .int 0, .ref q_59, .ref q_60, .ref q_61, .ref q_62, .ref q_63, .ref q_64, .ref q_65])), (q_102, .inr (12, [.ref q_103, .ref q_104, .int 0, .int 0, .int 0, .int (-1), .int 0, .int 0, .int 0, .int 0, .long 0, .ref q_105, .ref q_106, .ref q_107, .ref q_108, .ref q_109, .ref q_110, .ref q_111, .ref q_112, .ref q_113, .ref q_114, .ref q_115, .ref q_116, .ref q_117, .ref q_118, .ref q_119, .ref q_120, .ref q_121, .ref q_122, .ref q_123, .ref q_124, .ref q_125, .ref q_126, .ref q_127, .ref q_128, .ref q_129, .ref q_130, .ref q_131, .ref q_132, .ref q_133, .ref q_134, .ref q_135, .ref q_136, .int 0, .int 0, .int 0, .int 0, .int 0, .int 0, .int 0, .int 0, .int 0, .ref q_137, .ref q_138, .int 0, .int 0, .ref q_139, .ref q_140, .ref q_141, .ref q_142, .ref q_143, .ref q_144, .ref q_145, .ref q_146, .ref q_147, .ref q_148, .int 0, .int 0, .int 0, .int 0, .int 0, .int 0, .int 0, .int 0, .int 0, .int 0, .int 0, .int 0, .ref q_149, .ref q_150, .ref q_151, .ref q_152, .ref q_153, .int 0, .int 0, .ref q_154, .ref q_155])), (q_137, aI g 374 z0)] := hD.sub [0, 14, 15, 58, 69] (by decide) rfl
        refine lv_aload_n hx hb dL_law_460 rfl (lv_at hl 2 rfl) ?_
        refine lv_aload_n hx hb dL_law_461 rfl (lv_at hl 3 rfl) ?_
        refine lv_iload_n hx hb dL_law_462 rfl (lv_at hl 0 rfl) ?_
        refine lv_iconst (v := 1) hx hb dL_law_463 (by decide) ?_
        refine lv_iadd hx hb dL_law_464 ?_
        refine p_ti (v := 1) (by decide +kernel) ?_
        refine va_sld hx hb hXs hbl hbA hS (i := 1) (by unfold vp_in; decide) dL_law_465 ?_
        refine p_ti (v := xs 1) rfl ?_
        refine lv_aload_n hx hb dL_law_466 rfl (lv_at hl 3 rfl) ?_
        refine lv_iload_n hx hb dL_law_467 rfl (lv_at hl 0 rfl) ?_
        refine lv_iconst (v := 2) hx hb dL_law_468 (by decide) ?_
        refine lv_iadd hx hb dL_law_469 ?_
        refine p_ti (v := 2) (by decide +kernel) ?_
        refine va_sld hx hb hXs hbl hbA hS (i := 2) (by unfold vp_in; decide) dL_law_470 ?_
        refine p_ti (v := xs 2) rfl ?_
        refine k_iR (k_V (n := 2) ⟨hx, hb, hml, hown, hT⟩ hK hP hD [0, 1, 2] rfl (by decide) (c_X11_may l g H.size q_1 q_2 q_3 q_4 q_5 q_6 q_7 q_8 q_9 q_10 q_11 q_56 q_57 q_59 q_60 q_61 q_62 q_63 q_64 q_65 f_58 (xs 1) (xs 2)) (gV bw_590 bw_591 bw_592 bw_207 bw_34) rfl rfl (by decide +kernel) ⟨by decide, by decide⟩ (ci := 11) (q0 := 0) rfl rfl (fun _ _ _ _ _ => trivial) (fun _ _ _ => trivial) rfl rfl hl.1 (Nat.le_of_ble_eq_true rfl) dL_law_471 ⟨by decide, by decide⟩) hP hS hA (fun r_174 _ H locs hw hP hS => ?_)
        have hw : r_174 = (-1) := hw
        subst hw
        refine lv_aload_n hx hb dL_law_474 rfl (lv_at hl 1 rfl) ?_
        refine lv_aload_n hx hb dL_law_475 rfl (lv_at hl 3 rfl) ?_
        refine lv_iload_n hx hb dL_law_476 rfl (lv_at hl 0 rfl) ?_
        refine lv_iconst (v := 1) hx hb dL_law_477 (by decide) ?_
        refine lv_iadd hx hb dL_law_478 ?_
        refine p_ti (v := 1) (by decide +kernel) ?_
        refine va_sld hx hb hXs hbl hbA hS (i := 1) (by unfold vp_in; decide) dL_law_479 ?_
        refine p_ti (v := xs 1) rfl ?_
        refine lv_aload_n hx hb dL_law_480 rfl (lv_at hl 3 rfl) ?_
        refine lv_iload_n hx hb dL_law_481 rfl (lv_at hl 0 rfl) ?_
        refine lv_iconst (v := 2) hx hb dL_law_482 (by decide) ?_
        refine lv_iadd hx hb dL_law_483 ?_
        refine p_ti (v := 2) (by decide +kernel) ?_
        refine va_sld hx hb hXs hbl hbA hS (i := 2) (by unfold vp_in; decide) dL_law_484 ?_
        refine p_ti (v := xs 2) rfl ?_
        refine k_iR (k_V (n := 2) ⟨hx, hb, hml, hown, hT⟩ hK hP hD [3, 4] rfl (by decide) (c_X12_may l g H.size q_102 q_103 q_104 q_105 q_106 q_107 q_108 q_109 q_110 q_111 q_112 q_113 q_114 q_115 q_116 q_117 q_118 q_119 q_120 q_121 q_122 q_123 q_124 q_125 q_126 q_127 q_128 q_129 q_130 q_131 q_132 q_133 q_134 q_135 q_136 q_137 q_138 q_139 q_140 q_141 q_142 q_143 q_144 q_145 q_146 q_147 q_148 q_149 q_150 q_151 q_152 q_153 q_154 q_155 (xs 1) (xs 2)) (gV bw_593 bw_594 bw_595 bw_233 bw_249) rfl rfl (by decide +kernel) ⟨by decide, by decide⟩ (ci := 12) (q0 := 0) rfl rfl (fun _ _ _ _ _ => trivial) (fun _ _ _ => trivial) rfl rfl hl.1 (Nat.le_of_ble_eq_true rfl) dL_law_485 ⟨by decide, by decide⟩) hP hS hA (fun r_175 _ H locs hw hP hS => ?_)
        have hw : r_175 = (-1) := hw
        subst hw
        refine lv_icmp_eq (tgt := 1217) hx hb dL_law_488 (by decide) (fun _ => ?_) (fun c9 => absurd (by decide) c9)
        refine lv_iinc (v := 6) (lv' := [(3, .int 6), (2, .ref q_102), (1, .ref q_1), (0, .ref b)]) hx hb dL_law_1217 hl (k := 0) rfl (by decide) (by decide) rfl (fun ls hl => ?_)
        refine lv_goto (tgt := 18) hx hb dL_law_1220 (by decide) ?_
        refine lv_iload_n hx hb dL_law_18 rfl (lv_at hl 0 rfl) ?_
        refine lv_aload_n hx hb dL_law_19 rfl (lv_at hl 3 rfl) ?_
        refine va_slen hx hb hXs hbl hbA hS dL_law_20 ?_
        refine p_ti (v := 6) rfl ?_
        refine lv_bipush (v := 6) hx hb dL_law_21 (by decide) ?_
        refine lv_isub hx hb dL_law_23 ?_
        refine p_ti (v := 0) (by decide +kernel) ?_
        refine lv_icmp_gt (tgt := 1223) hx hb dL_law_24 (by decide) (fun _ => ?_) (fun c9 => absurd (by decide) c9)
        refine lv_iconst (v := 1) hx hb dL_law_1223 (by decide) ?_
        refine va_forget (fun q hq => by have h9 := hS.2.2 q hq; rw [hAe] at h9; exact h9) ?_
        refine W.widen (k := 600000) (n := 7302249) (by decide) (by decide) ?_
        exact lw_ret hx hb hr hlocks dL_law_1224
      · obtain rfl : x_156 = 9 := eh_157
        refine lv_tableIn (tgt := 493) hx hb dL_law_33 (by decide) (by decide) (off := 460) (by decide) (by decide) ?_
        have hP : va_P g.1 vwCl [(q_1, .inr (11, [.ref q_2, .int 0, .ref q_3, .ref q_4, .ref q_5, .ref q_6, .int 0, .int 0, .ref q_7, .int 0, .ref q_8, .ref q_9, .ref q_10, .ref q_11])), (q_6, aO g 41 (va_up (va_up f_58 0 (some q_57)) 1 (some q_56))), (q_57, .inr (9, [.int 0, .int 0, .int 0, .int 0, .int 0, .int 0, .int 0, .ref q_59, .ref q_60, .ref q_61, .ref q_62, .ref q_63, .ref q_64, .ref q_65])), (q_102, .inr (12, [.ref q_103, .ref q_104, .int 0, .int 0, .int 0, .int (-1), .int 0, .int 0, .int 0, .int 0, .long 0, .ref q_105, .ref q_106, .ref q_107, .ref q_108, .ref q_109, .ref q_110, .ref q_111, .ref q_112, .ref q_113, .ref q_114, .ref q_115, .ref q_116, .ref q_117, .ref q_118, .ref q_119, .ref q_120, .ref q_121, .ref q_122, .ref q_123, .ref q_124, .ref q_125, .ref q_126, .ref q_127, .ref q_128, .ref q_129, .ref q_130, .ref q_131, .ref q_132, .ref q_133, .ref q_134, .ref q_135, .ref q_136, .int 0, .int 0, .int 0, .int 0, .int 0, .int 0, .int 0, .int 0, .int 0, .ref q_137, .ref q_138, .int 0, .int 0, .ref q_139, .ref q_140, .ref q_141, .ref q_142, .ref q_143, .ref q_144, .ref q_145, .ref q_146, .ref q_147, .ref q_148, .int 0, .int 0, .int 0, .int 0, .int 0, .int 0, .int 0, .int 0, .int 0, .int 0, .int 0, .int 0, .ref q_149, .ref q_150, .ref q_151, .ref q_152, .ref q_153, .int 0, .int 0, .ref q_154, .ref q_155])), (q_137, aI g 374 z0)] H := hP.sub [0, 14, 15, 58, 69] rfl
        have hD : va_D A [(q_1, .inr (11, [.ref q_2, .int 0, .ref q_3, .ref q_4, .ref q_5, .ref q_6, .int 0, .int 0, .ref q_7, .int 0, .ref q_8, .ref q_9, .ref q_10, .ref q_11])), (q_6, aO g 41 (va_up (va_up f_58 0 (some q_57)) 1 (some q_56))), (q_57, .inr (9, [.int 0, .int 0, .int 0, .int 0, .int 0, .int 0, .int 0, .ref q_59, .ref q_60, .ref q_61, .ref q_62, .ref q_63, .ref q_64, .ref q_65])), (q_102, .inr (12, [.ref q_103, .ref q_104, .int 0, .int 0, .int 0, .int (-1), .int 0, .int 0, .int 0, .int 0, .long 0, .ref q_105, .ref q_106, .ref q_107, .ref q_108, .ref q_109, .ref q_110, .ref q_111, .ref q_112, .ref q_113, .ref q_114, .ref q_115, .ref q_116, .ref q_117, .ref q_118, .ref q_119, .ref q_120, .ref q_121, .ref q_122, .ref q_123, .ref q_124, .ref q_125, .ref q_126, .ref q_127, .ref q_128, .ref q_129, .ref q_130, .ref q_131, .ref q_132, .ref q_133, .ref q_134, .ref q_135, .ref q_136, .int 0, .int 0, .int 0, .int 0, .int 0, .int 0, .int 0, .int 0, .int 0, .ref q_137, .ref q_138, .int 0, .int 0, .ref q_139, .ref q_140, .ref q_141, .ref q_142, .ref q_143, .ref q_144, .ref q_145, .ref q_146, .ref q_147, .ref q_148, .int 0, .int 0, .int 0, .int 0, .int 0, .int 0, .int 0, .int 0, .int 0, .int 0, .int 0, .int 0, .ref q_149, .ref q_150, .ref q_151, .ref q_152, .ref q_153, .int 0, .int 0, .ref q_154, .ref q_155])), (q_137, aI g 374 z0)] := hD.sub [0, 14, 15, 58, 69] (by decide) rfl
        refine lv_aload_n hx hb dL_law_493 rfl (lv_at hl 2 rfl) ?_
        refine lv_aload_n hx hb dL_law_494 rfl (lv_at hl 3 rfl) ?_
        refine lv_iload_n hx hb dL_law_495 rfl (lv_at hl 0 rfl) ?_
        refine lv_iconst (v := 1) hx hb dL_law_496 (by decide) ?_
        refine lv_iadd hx hb dL_law_497 ?_
        refine p_ti (v := 1) (by decide +kernel) ?_
        refine va_sld hx hb hXs hbl hbA hS (i := 1) (by unfold vp_in; decide) dL_law_498 ?_
        refine p_ti (v := xs 1) rfl ?_
        refine k_iR (k_V (n := 1) ⟨hx, hb, hml, hown, hT⟩ hK hP hD [0, 1, 2] rfl (by decide) (c_X11_next l g H.size q_1 q_2 q_3 q_4 q_5 q_6 q_7 q_8 q_9 q_10 q_11 q_56 q_57 q_59 q_60 q_61 q_62 q_63 q_64 q_65 f_58 (xs 1)) (gV bw_596 bw_597 bw_598 bw_207 bw_38) rfl rfl (by decide +kernel) ⟨by decide, by decide⟩ (ci := 11) (q0 := 0) rfl rfl (fun _ _ _ _ _ => trivial) (fun _ _ _ => trivial) rfl rfl hl.1 (Nat.le_of_ble_eq_true rfl) dL_law_499 ⟨by decide, by decide⟩) hP hS hA (fun r_176 _ H locs hw hP hS => ?_)
        have hw : r_176 = (-1) := hw
        subst hw
        refine lv_aload_n hx hb dL_law_502 rfl (lv_at hl 1 rfl) ?_
        refine lv_aload_n hx hb dL_law_503 rfl (lv_at hl 3 rfl) ?_
        refine lv_iload_n hx hb dL_law_504 rfl (lv_at hl 0 rfl) ?_
        refine lv_iconst (v := 1) hx hb dL_law_505 (by decide) ?_
        refine lv_iadd hx hb dL_law_506 ?_
        refine p_ti (v := 1) (by decide +kernel) ?_
        refine va_sld hx hb hXs hbl hbA hS (i := 1) (by unfold vp_in; decide) dL_law_507 ?_
        refine p_ti (v := xs 1) rfl ?_
        refine k_iR (k_V (n := 1) ⟨hx, hb, hml, hown, hT⟩ hK hP hD [3, 4] rfl (by decide) (c_X12_next l g H.size q_102 q_103 q_104 q_105 q_106 q_107 q_108 q_109 q_110 q_111 q_112 q_113 q_114 q_115 q_116 q_117 q_118 q_119 q_120 q_121 q_122 q_123 q_124 q_125 q_126 q_127 q_128 q_129 q_130 q_131 q_132 q_133 q_134 q_135 q_136 q_137 q_138 q_139 q_140 q_141 q_142 q_143 q_144 q_145 q_146 q_147 q_148 q_149 q_150 q_151 q_152 q_153 q_154 q_155 (xs 1)) (gV bw_599 bw_600 bw_601 bw_233 bw_250) rfl rfl (by decide +kernel) ⟨by decide, by decide⟩ (ci := 12) (q0 := 0) rfl rfl (fun _ _ _ _ _ => trivial) (fun _ _ _ => trivial) rfl rfl hl.1 (Nat.le_of_ble_eq_true rfl) dL_law_508 ⟨by decide, by decide⟩) hP hS hA (fun r_177 _ H locs hw hP hS => ?_)
        have hw : r_177 = (-1) := hw
        subst hw
        refine lv_icmp_eq (tgt := 1217) hx hb dL_law_511 (by decide) (fun _ => ?_) (fun c9 => absurd (by decide) c9)
        refine lv_iinc (v := 6) (lv' := [(3, .int 6), (2, .ref q_102), (1, .ref q_1), (0, .ref b)]) hx hb dL_law_1217 hl (k := 0) rfl (by decide) (by decide) rfl (fun ls hl => ?_)
        refine lv_goto (tgt := 18) hx hb dL_law_1220 (by decide) ?_
        refine lv_iload_n hx hb dL_law_18 rfl (lv_at hl 0 rfl) ?_
        refine lv_aload_n hx hb dL_law_19 rfl (lv_at hl 3 rfl) ?_
        refine va_slen hx hb hXs hbl hbA hS dL_law_20 ?_
        refine p_ti (v := 6) rfl ?_
        refine lv_bipush (v := 6) hx hb dL_law_21 (by decide) ?_
        refine lv_isub hx hb dL_law_23 ?_
        refine p_ti (v := 0) (by decide +kernel) ?_
        refine lv_icmp_gt (tgt := 1223) hx hb dL_law_24 (by decide) (fun _ => ?_) (fun c9 => absurd (by decide) c9)
        refine lv_iconst (v := 1) hx hb dL_law_1223 (by decide) ?_
        refine va_forget (fun q hq => by have h9 := hS.2.2 q hq; rw [hAe] at h9; exact h9) ?_
        refine W.widen (k := 600000) (n := 7302249) (by decide) (by decide) ?_
        exact lw_ret hx hb hr hlocks dL_law_1224
      · obtain rfl : x_156 = 10 := eh_157
        refine lv_tableIn (tgt := 516) hx hb dL_law_33 (by decide) (by decide) (off := 483) (by decide) (by decide) ?_
        have hP : va_P g.1 vwCl [(q_1, .inr (11, [.ref q_2, .int 0, .ref q_3, .ref q_4, .ref q_5, .ref q_6, .int 0, .int 0, .ref q_7, .int 0, .ref q_8, .ref q_9, .ref q_10, .ref q_11])), (q_4, .inr (2, [.ref q_14, .ref q_15, .ref q_16, .int 0, .ref q_17, .ref q_18, .int 9, .int 0, .ref q_19])), (q_14, .inr (3, [.int 0, .ref q_20, .ref q_21, .ref q_22, .ref q_23])), (q_102, .inr (12, [.ref q_103, .ref q_104, .int 0, .int 0, .int 0, .int (-1), .int 0, .int 0, .int 0, .int 0, .long 0, .ref q_105, .ref q_106, .ref q_107, .ref q_108, .ref q_109, .ref q_110, .ref q_111, .ref q_112, .ref q_113, .ref q_114, .ref q_115, .ref q_116, .ref q_117, .ref q_118, .ref q_119, .ref q_120, .ref q_121, .ref q_122, .ref q_123, .ref q_124, .ref q_125, .ref q_126, .ref q_127, .ref q_128, .ref q_129, .ref q_130, .ref q_131, .ref q_132, .ref q_133, .ref q_134, .ref q_135, .ref q_136, .int 0, .int 0, .int 0, .int 0, .int 0, .int 0, .int 0, .int 0, .int 0, .ref q_137, .ref q_138, .int 0, .int 0, .ref q_139, .ref q_140, .ref q_141, .ref q_142, .ref q_143, .ref q_144, .ref q_145, .ref q_146, .ref q_147, .ref q_148, .int 0, .int 0, .int 0, .int 0, .int 0, .int 0, .int 0, .int 0, .int 0, .int 0, .int 0, .int 0, .ref q_149, .ref q_150, .ref q_151, .ref q_152, .ref q_153, .int 0, .int 0, .ref q_154, .ref q_155])), (q_105, aI g 2 z0)] H := hP.sub [0, 4, 5, 58, 60] rfl
        have hD : va_D A [(q_1, .inr (11, [.ref q_2, .int 0, .ref q_3, .ref q_4, .ref q_5, .ref q_6, .int 0, .int 0, .ref q_7, .int 0, .ref q_8, .ref q_9, .ref q_10, .ref q_11])), (q_4, .inr (2, [.ref q_14, .ref q_15, .ref q_16, .int 0, .ref q_17, .ref q_18, .int 9, .int 0, .ref q_19])), (q_14, .inr (3, [.int 0, .ref q_20, .ref q_21, .ref q_22, .ref q_23])), (q_102, .inr (12, [.ref q_103, .ref q_104, .int 0, .int 0, .int 0, .int (-1), .int 0, .int 0, .int 0, .int 0, .long 0, .ref q_105, .ref q_106, .ref q_107, .ref q_108, .ref q_109, .ref q_110, .ref q_111, .ref q_112, .ref q_113, .ref q_114, .ref q_115, .ref q_116, .ref q_117, .ref q_118, .ref q_119, .ref q_120, .ref q_121, .ref q_122, .ref q_123, .ref q_124, .ref q_125, .ref q_126, .ref q_127, .ref q_128, .ref q_129, .ref q_130, .ref q_131, .ref q_132, .ref q_133, .ref q_134, .ref q_135, .ref q_136, .int 0, .int 0, .int 0, .int 0, .int 0, .int 0, .int 0, .int 0, .int 0, .ref q_137, .ref q_138, .int 0, .int 0, .ref q_139, .ref q_140, .ref q_141, .ref q_142, .ref q_143, .ref q_144, .ref q_145, .ref q_146, .ref q_147, .ref q_148, .int 0, .int 0, .int 0, .int 0, .int 0, .int 0, .int 0, .int 0, .int 0, .int 0, .int 0, .int 0, .ref q_149, .ref q_150, .ref q_151, .ref q_152, .ref q_153, .int 0, .int 0, .ref q_154, .ref q_155])), (q_105, aI g 2 z0)] := hD.sub [0, 4, 5, 58, 60] (by decide) rfl
        refine lv_aload_n hx hb dL_law_516 rfl (lv_at hl 2 rfl) ?_
        refine lv_aload_n hx hb dL_law_517 rfl (lv_at hl 3 rfl) ?_
        refine lv_iload_n hx hb dL_law_518 rfl (lv_at hl 0 rfl) ?_
        refine lv_iconst (v := 1) hx hb dL_law_519 (by decide) ?_
        refine lv_iadd hx hb dL_law_520 ?_
        refine p_ti (v := 1) (by decide +kernel) ?_
        refine va_sld hx hb hXs hbl hbA hS (i := 1) (by unfold vp_in; decide) dL_law_521 ?_
        refine p_ti (v := xs 1) rfl ?_
        refine k_iR (k_V (n := 1) ⟨hx, hb, hml, hown, hT⟩ hK hP hD [0, 1, 2] rfl (by decide) (c_X11_heir l g H.size q_1 q_2 q_3 q_4 q_5 q_6 q_7 q_8 q_9 q_10 q_11 q_14 q_15 q_16 q_17 q_18 q_19 q_20 q_21 q_22 q_23 (xs 1)) (gV bw_602 bw_603 bw_604 bw_207 bw_39) rfl rfl (by decide +kernel) ⟨by decide, by decide⟩ (ci := 11) (q0 := 0) rfl rfl (fun _ _ _ _ _ => trivial) (fun _ _ _ => trivial) rfl rfl hl.1 (Nat.le_of_ble_eq_true rfl) dL_law_522 ⟨by decide, by decide⟩) hP hS hA (fun r_178 _ H locs hw hP hS => ?_)
        have hw : r_178 = (-1) := hw
        subst hw
        refine lv_aload_n hx hb dL_law_525 rfl (lv_at hl 1 rfl) ?_
        refine lv_aload_n hx hb dL_law_526 rfl (lv_at hl 3 rfl) ?_
        refine lv_iload_n hx hb dL_law_527 rfl (lv_at hl 0 rfl) ?_
        refine lv_iconst (v := 1) hx hb dL_law_528 (by decide) ?_
        refine lv_iadd hx hb dL_law_529 ?_
        refine p_ti (v := 1) (by decide +kernel) ?_
        refine va_sld hx hb hXs hbl hbA hS (i := 1) (by unfold vp_in; decide) dL_law_530 ?_
        refine p_ti (v := xs 1) rfl ?_
        refine k_iR (k_V (n := 1) ⟨hx, hb, hml, hown, hT⟩ hK hP hD [3, 4] rfl (by decide) (c_X12_heir l g H.size q_102 q_103 q_104 q_105 q_106 q_107 q_108 q_109 q_110 q_111 q_112 q_113 q_114 q_115 q_116 q_117 q_118 q_119 q_120 q_121 q_122 q_123 q_124 q_125 q_126 q_127 q_128 q_129 q_130 q_131 q_132 q_133 q_134 q_135 q_136 q_137 q_138 q_139 q_140 q_141 q_142 q_143 q_144 q_145 q_146 q_147 q_148 q_149 q_150 q_151 q_152 q_153 q_154 q_155 (xs 1)) (gV bw_605 bw_606 bw_607 bw_233 bw_251) rfl rfl (by decide +kernel) ⟨by decide, by decide⟩ (ci := 12) (q0 := 0) rfl rfl (fun _ _ _ _ _ => trivial) (fun _ _ _ => trivial) rfl rfl hl.1 (Nat.le_of_ble_eq_true rfl) dL_law_531 ⟨by decide, by decide⟩) hP hS hA (fun r_179 _ H locs hw hP hS => ?_)
        have hw : r_179 = (-1) := hw
        subst hw
        refine lv_icmp_eq (tgt := 1217) hx hb dL_law_534 (by decide) (fun _ => ?_) (fun c9 => absurd (by decide) c9)
        refine lv_iinc (v := 6) (lv' := [(3, .int 6), (2, .ref q_102), (1, .ref q_1), (0, .ref b)]) hx hb dL_law_1217 hl (k := 0) rfl (by decide) (by decide) rfl (fun ls hl => ?_)
        refine lv_goto (tgt := 18) hx hb dL_law_1220 (by decide) ?_
        refine lv_iload_n hx hb dL_law_18 rfl (lv_at hl 0 rfl) ?_
        refine lv_aload_n hx hb dL_law_19 rfl (lv_at hl 3 rfl) ?_
        refine va_slen hx hb hXs hbl hbA hS dL_law_20 ?_
        refine p_ti (v := 6) rfl ?_
        refine lv_bipush (v := 6) hx hb dL_law_21 (by decide) ?_
        refine lv_isub hx hb dL_law_23 ?_
        refine p_ti (v := 0) (by decide +kernel) ?_
        refine lv_icmp_gt (tgt := 1223) hx hb dL_law_24 (by decide) (fun _ => ?_) (fun c9 => absurd (by decide) c9)
        refine lv_iconst (v := 1) hx hb dL_law_1223 (by decide) ?_
        refine va_forget (fun q hq => by have h9 := hS.2.2 q hq; rw [hAe] at h9; exact h9) ?_
        refine W.widen (k := 600000) (n := 7302249) (by decide) (by decide) ?_
        exact lw_ret hx hb hr hlocks dL_law_1224
      · obtain rfl : x_156 = 11 := eh_157
        refine lv_tableIn (tgt := 539) hx hb dL_law_33 (by decide) (by decide) (off := 506) (by decide) (by decide) ?_
        have hP : va_P g.1 vwCl [(q_1, .inr (11, [.ref q_2, .int 0, .ref q_3, .ref q_4, .ref q_5, .ref q_6, .int 0, .int 0, .ref q_7, .int 0, .ref q_8, .ref q_9, .ref q_10, .ref q_11])), (q_4, .inr (2, [.ref q_14, .ref q_15, .ref q_16, .int 0, .ref q_17, .ref q_18, .int 9, .int 0, .ref q_19])), (q_14, .inr (3, [.int 0, .ref q_20, .ref q_21, .ref q_22, .ref q_23])), (q_102, .inr (12, [.ref q_103, .ref q_104, .int 0, .int 0, .int 0, .int (-1), .int 0, .int 0, .int 0, .int 0, .long 0, .ref q_105, .ref q_106, .ref q_107, .ref q_108, .ref q_109, .ref q_110, .ref q_111, .ref q_112, .ref q_113, .ref q_114, .ref q_115, .ref q_116, .ref q_117, .ref q_118, .ref q_119, .ref q_120, .ref q_121, .ref q_122, .ref q_123, .ref q_124, .ref q_125, .ref q_126, .ref q_127, .ref q_128, .ref q_129, .ref q_130, .ref q_131, .ref q_132, .ref q_133, .ref q_134, .ref q_135, .ref q_136, .int 0, .int 0, .int 0, .int 0, .int 0, .int 0, .int 0, .int 0, .int 0, .ref q_137, .ref q_138, .int 0, .int 0, .ref q_139, .ref q_140, .ref q_141, .ref q_142, .ref q_143, .ref q_144, .ref q_145, .ref q_146, .ref q_147, .ref q_148, .int 0, .int 0, .int 0, .int 0, .int 0, .int 0, .int 0, .int 0, .int 0, .int 0, .int 0, .int 0, .ref q_149, .ref q_150, .ref q_151, .ref q_152, .ref q_153, .int 0, .int 0, .ref q_154, .ref q_155])), (q_105, aI g 2 z0)] H := hP.sub [0, 4, 5, 58, 60] rfl
        have hD : va_D A [(q_1, .inr (11, [.ref q_2, .int 0, .ref q_3, .ref q_4, .ref q_5, .ref q_6, .int 0, .int 0, .ref q_7, .int 0, .ref q_8, .ref q_9, .ref q_10, .ref q_11])), (q_4, .inr (2, [.ref q_14, .ref q_15, .ref q_16, .int 0, .ref q_17, .ref q_18, .int 9, .int 0, .ref q_19])), (q_14, .inr (3, [.int 0, .ref q_20, .ref q_21, .ref q_22, .ref q_23])), (q_102, .inr (12, [.ref q_103, .ref q_104, .int 0, .int 0, .int 0, .int (-1), .int 0, .int 0, .int 0, .int 0, .long 0, .ref q_105, .ref q_106, .ref q_107, .ref q_108, .ref q_109, .ref q_110, .ref q_111, .ref q_112, .ref q_113, .ref q_114, .ref q_115, .ref q_116, .ref q_117, .ref q_118, .ref q_119, .ref q_120, .ref q_121, .ref q_122, .ref q_123, .ref q_124, .ref q_125, .ref q_126, .ref q_127, .ref q_128, .ref q_129, .ref q_130, .ref q_131, .ref q_132, .ref q_133, .ref q_134, .ref q_135, .ref q_136, .int 0, .int 0, .int 0, .int 0, .int 0, .int 0, .int 0, .int 0, .int 0, .ref q_137, .ref q_138, .int 0, .int 0, .ref q_139, .ref q_140, .ref q_141, .ref q_142, .ref q_143, .ref q_144, .ref q_145, .ref q_146, .ref q_147, .ref q_148, .int 0, .int 0, .int 0, .int 0, .int 0, .int 0, .int 0, .int 0, .int 0, .int 0, .int 0, .int 0, .ref q_149, .ref q_150, .ref q_151, .ref q_152, .ref q_153, .int 0, .int 0, .ref q_154, .ref q_155])), (q_105, aI g 2 z0)] := hD.sub [0, 4, 5, 58, 60] (by decide) rfl
        refine lv_aload_n hx hb dL_law_539 rfl (lv_at hl 2 rfl) ?_
        refine lv_aload_n hx hb dL_law_540 rfl (lv_at hl 3 rfl) ?_
        refine lv_iload_n hx hb dL_law_541 rfl (lv_at hl 0 rfl) ?_
        refine lv_iconst (v := 1) hx hb dL_law_542 (by decide) ?_
        refine lv_iadd hx hb dL_law_543 ?_
        refine p_ti (v := 1) (by decide +kernel) ?_
        refine va_sld hx hb hXs hbl hbA hS (i := 1) (by unfold vp_in; decide) dL_law_544 ?_
        refine p_ti (v := xs 1) rfl ?_
        refine k_iR (k_V (n := 1) ⟨hx, hb, hml, hown, hT⟩ hK hP hD [0, 1, 2] rfl (by decide) (c_X11_his l g H.size q_1 q_2 q_3 q_4 q_5 q_6 q_7 q_8 q_9 q_10 q_11 q_14 q_15 q_16 q_17 q_18 q_19 q_20 q_21 q_22 q_23 (xs 1)) (gV bw_608 bw_609 bw_610 bw_207 bw_40) rfl rfl (by decide +kernel) ⟨by decide, by decide⟩ (ci := 11) (q0 := 0) rfl rfl (fun _ _ _ _ _ => trivial) (fun _ _ _ => trivial) rfl rfl hl.1 (Nat.le_of_ble_eq_true rfl) dL_law_545 ⟨by decide, by decide⟩) hP hS hA (fun r_180 _ H locs hw hP hS => ?_)
        have hw : r_180 = (-1) := hw
        subst hw
        refine lv_aload_n hx hb dL_law_548 rfl (lv_at hl 1 rfl) ?_
        refine lv_aload_n hx hb dL_law_549 rfl (lv_at hl 3 rfl) ?_
        refine lv_iload_n hx hb dL_law_550 rfl (lv_at hl 0 rfl) ?_
        refine lv_iconst (v := 1) hx hb dL_law_551 (by decide) ?_
        refine lv_iadd hx hb dL_law_552 ?_
        refine p_ti (v := 1) (by decide +kernel) ?_
        refine va_sld hx hb hXs hbl hbA hS (i := 1) (by unfold vp_in; decide) dL_law_553 ?_
        refine p_ti (v := xs 1) rfl ?_
        refine k_iR (k_V (n := 1) ⟨hx, hb, hml, hown, hT⟩ hK hP hD [3, 4] rfl (by decide) (c_X12_his l g H.size q_102 q_103 q_104 q_105 q_106 q_107 q_108 q_109 q_110 q_111 q_112 q_113 q_114 q_115 q_116 q_117 q_118 q_119 q_120 q_121 q_122 q_123 q_124 q_125 q_126 q_127 q_128 q_129 q_130 q_131 q_132 q_133 q_134 q_135 q_136 q_137 q_138 q_139 q_140 q_141 q_142 q_143 q_144 q_145 q_146 q_147 q_148 q_149 q_150 q_151 q_152 q_153 q_154 q_155 (xs 1)) (gV bw_611 bw_612 bw_613 bw_233 bw_252) rfl rfl (by decide +kernel) ⟨by decide, by decide⟩ (ci := 12) (q0 := 0) rfl rfl (fun _ _ _ _ _ => trivial) (fun _ _ _ => trivial) rfl rfl hl.1 (Nat.le_of_ble_eq_true rfl) dL_law_554 ⟨by decide, by decide⟩) hP hS hA (fun r_181 _ H locs hw hP hS => ?_)
        have hw : r_181 = (-1) := hw
        subst hw
        refine lv_icmp_eq (tgt := 1217) hx hb dL_law_557 (by decide) (fun _ => ?_) (fun c9 => absurd (by decide) c9)
        refine lv_iinc (v := 6) (lv' := [(3, .int 6), (2, .ref q_102), (1, .ref q_1), (0, .ref b)]) hx hb dL_law_1217 hl (k := 0) rfl (by decide) (by decide) rfl (fun ls hl => ?_)
        refine lv_goto (tgt := 18) hx hb dL_law_1220 (by decide) ?_
        refine lv_iload_n hx hb dL_law_18 rfl (lv_at hl 0 rfl) ?_
        refine lv_aload_n hx hb dL_law_19 rfl (lv_at hl 3 rfl) ?_
        refine va_slen hx hb hXs hbl hbA hS dL_law_20 ?_
        refine p_ti (v := 6) rfl ?_
        refine lv_bipush (v := 6) hx hb dL_law_21 (by decide) ?_
        refine lv_isub hx hb dL_law_23 ?_
        refine p_ti (v := 0) (by decide +kernel) ?_
        refine lv_icmp_gt (tgt := 1223) hx hb dL_law_24 (by decide) (fun _ => ?_) (fun c9 => absurd (by decide) c9)
        refine lv_iconst (v := 1) hx hb dL_law_1223 (by decide) ?_
        refine va_forget (fun q hq => by have h9 := hS.2.2 q hq; rw [hAe] at h9; exact h9) ?_
        refine W.widen (k := 600000) (n := 7302249) (by decide) (by decide) ?_
        exact lw_ret hx hb hr hlocks dL_law_1224
      · obtain rfl : x_156 = 12 := eh_157
        refine lv_tableIn (tgt := 562) hx hb dL_law_33 (by decide) (by decide) (off := 529) (by decide) (by decide) ?_
        have hP : va_P g.1 vwCl [(q_1, .inr (11, [.ref q_2, .int 0, .ref q_3, .ref q_4, .ref q_5, .ref q_6, .int 0, .int 0, .ref q_7, .int 0, .ref q_8, .ref q_9, .ref q_10, .ref q_11])), (q_4, .inr (2, [.ref q_14, .ref q_15, .ref q_16, .int 0, .ref q_17, .ref q_18, .int 9, .int 0, .ref q_19])), (q_14, .inr (3, [.int 0, .ref q_20, .ref q_21, .ref q_22, .ref q_23])), (q_102, .inr (12, [.ref q_103, .ref q_104, .int 0, .int 0, .int 0, .int (-1), .int 0, .int 0, .int 0, .int 0, .long 0, .ref q_105, .ref q_106, .ref q_107, .ref q_108, .ref q_109, .ref q_110, .ref q_111, .ref q_112, .ref q_113, .ref q_114, .ref q_115, .ref q_116, .ref q_117, .ref q_118, .ref q_119, .ref q_120, .ref q_121, .ref q_122, .ref q_123, .ref q_124, .ref q_125, .ref q_126, .ref q_127, .ref q_128, .ref q_129, .ref q_130, .ref q_131, .ref q_132, .ref q_133, .ref q_134, .ref q_135, .ref q_136, .int 0, .int 0, .int 0, .int 0, .int 0, .int 0, .int 0, .int 0, .int 0, .ref q_137, .ref q_138, .int 0, .int 0, .ref q_139, .ref q_140, .ref q_141, .ref q_142, .ref q_143, .ref q_144, .ref q_145, .ref q_146, .ref q_147, .ref q_148, .int 0, .int 0, .int 0, .int 0, .int 0, .int 0, .int 0, .int 0, .int 0, .int 0, .int 0, .int 0, .ref q_149, .ref q_150, .ref q_151, .ref q_152, .ref q_153, .int 0, .int 0, .ref q_154, .ref q_155])), (q_105, aI g 2 z0)] H := hP.sub [0, 4, 5, 58, 60] rfl
        have hD : va_D A [(q_1, .inr (11, [.ref q_2, .int 0, .ref q_3, .ref q_4, .ref q_5, .ref q_6, .int 0, .int 0, .ref q_7, .int 0, .ref q_8, .ref q_9, .ref q_10, .ref q_11])), (q_4, .inr (2, [.ref q_14, .ref q_15, .ref q_16, .int 0, .ref q_17, .ref q_18, .int 9, .int 0, .ref q_19])), (q_14, .inr (3, [.int 0, .ref q_20, .ref q_21, .ref q_22, .ref q_23])), (q_102, .inr (12, [.ref q_103, .ref q_104, .int 0, .int 0, .int 0, .int (-1), .int 0, .int 0, .int 0, .int 0, .long 0, .ref q_105, .ref q_106, .ref q_107, .ref q_108, .ref q_109, .ref q_110, .ref q_111, .ref q_112, .ref q_113, .ref q_114, .ref q_115, .ref q_116, .ref q_117, .ref q_118, .ref q_119, .ref q_120, .ref q_121, .ref q_122, .ref q_123, .ref q_124, .ref q_125, .ref q_126, .ref q_127, .ref q_128, .ref q_129, .ref q_130, .ref q_131, .ref q_132, .ref q_133, .ref q_134, .ref q_135, .ref q_136, .int 0, .int 0, .int 0, .int 0, .int 0, .int 0, .int 0, .int 0, .int 0, .ref q_137, .ref q_138, .int 0, .int 0, .ref q_139, .ref q_140, .ref q_141, .ref q_142, .ref q_143, .ref q_144, .ref q_145, .ref q_146, .ref q_147, .ref q_148, .int 0, .int 0, .int 0, .int 0, .int 0, .int 0, .int 0, .int 0, .int 0, .int 0, .int 0, .int 0, .ref q_149, .ref q_150, .ref q_151, .ref q_152, .ref q_153, .int 0, .int 0, .ref q_154, .ref q_155])), (q_105, aI g 2 z0)] := hD.sub [0, 4, 5, 58, 60] (by decide) rfl
        refine lv_aload_n hx hb dL_law_562 rfl (lv_at hl 2 rfl) ?_
        refine lv_aload_n hx hb dL_law_563 rfl (lv_at hl 3 rfl) ?_
        refine lv_iload_n hx hb dL_law_564 rfl (lv_at hl 0 rfl) ?_
        refine lv_iconst (v := 1) hx hb dL_law_565 (by decide) ?_
        refine lv_iadd hx hb dL_law_566 ?_
        refine p_ti (v := 1) (by decide +kernel) ?_
        refine va_sld hx hb hXs hbl hbA hS (i := 1) (by unfold vp_in; decide) dL_law_567 ?_
        refine p_ti (v := xs 1) rfl ?_
        refine lv_aload_n hx hb dL_law_568 rfl (lv_at hl 3 rfl) ?_
        refine lv_iload_n hx hb dL_law_569 rfl (lv_at hl 0 rfl) ?_
        refine lv_iconst (v := 2) hx hb dL_law_570 (by decide) ?_
        refine lv_iadd hx hb dL_law_571 ?_
        refine p_ti (v := 2) (by decide +kernel) ?_
        refine va_sld hx hb hXs hbl hbA hS (i := 2) (by unfold vp_in; decide) dL_law_572 ?_
        refine p_ti (v := xs 2) rfl ?_
        refine k_iR (k_V (n := 2) ⟨hx, hb, hml, hown, hT⟩ hK hP hD [0, 1, 2] rfl (by decide) (c_X11_comes l g H.size q_1 q_2 q_3 q_4 q_5 q_6 q_7 q_8 q_9 q_10 q_11 q_14 q_15 q_16 q_17 q_18 q_19 q_20 q_21 q_22 q_23 (xs 1) (xs 2)) (gV bw_614 bw_615 bw_616 bw_207 bw_41) rfl rfl (by decide +kernel) ⟨by decide, by decide⟩ (ci := 11) (q0 := 0) rfl rfl (fun _ _ _ _ _ => trivial) (fun _ _ _ => trivial) rfl rfl hl.1 (Nat.le_of_ble_eq_true rfl) dL_law_573 ⟨by decide, by decide⟩) hP hS hA (fun r_182 _ H locs hw hP hS => ?_)
        have hw : r_182 = (-1) := hw
        subst hw
        refine lv_aload_n hx hb dL_law_576 rfl (lv_at hl 1 rfl) ?_
        refine lv_aload_n hx hb dL_law_577 rfl (lv_at hl 3 rfl) ?_
        refine lv_iload_n hx hb dL_law_578 rfl (lv_at hl 0 rfl) ?_
        refine lv_iconst (v := 1) hx hb dL_law_579 (by decide) ?_
        refine lv_iadd hx hb dL_law_580 ?_
        refine p_ti (v := 1) (by decide +kernel) ?_
        refine va_sld hx hb hXs hbl hbA hS (i := 1) (by unfold vp_in; decide) dL_law_581 ?_
        refine p_ti (v := xs 1) rfl ?_
        refine lv_aload_n hx hb dL_law_582 rfl (lv_at hl 3 rfl) ?_
        refine lv_iload_n hx hb dL_law_583 rfl (lv_at hl 0 rfl) ?_
        refine lv_iconst (v := 2) hx hb dL_law_584 (by decide) ?_
        refine lv_iadd hx hb dL_law_585 ?_
        refine p_ti (v := 2) (by decide +kernel) ?_
        refine va_sld hx hb hXs hbl hbA hS (i := 2) (by unfold vp_in; decide) dL_law_586 ?_
        refine p_ti (v := xs 2) rfl ?_
        refine k_iR (k_V (n := 2) ⟨hx, hb, hml, hown, hT⟩ hK hP hD [3, 4] rfl (by decide) (c_X12_comes l g H.size q_102 q_103 q_104 q_105 q_106 q_107 q_108 q_109 q_110 q_111 q_112 q_113 q_114 q_115 q_116 q_117 q_118 q_119 q_120 q_121 q_122 q_123 q_124 q_125 q_126 q_127 q_128 q_129 q_130 q_131 q_132 q_133 q_134 q_135 q_136 q_137 q_138 q_139 q_140 q_141 q_142 q_143 q_144 q_145 q_146 q_147 q_148 q_149 q_150 q_151 q_152 q_153 q_154 q_155 (xs 1) (xs 2)) (gV bw_617 bw_618 bw_619 bw_233 bw_253) rfl rfl (by decide +kernel) ⟨by decide, by decide⟩ (ci := 12) (q0 := 0) rfl rfl (fun _ _ _ _ _ => trivial) (fun _ _ _ => trivial) rfl rfl hl.1 (Nat.le_of_ble_eq_true rfl) dL_law_587 ⟨by decide, by decide⟩) hP hS hA (fun r_183 _ H locs hw hP hS => ?_)
        have hw : r_183 = (-1) := hw
        subst hw
        refine lv_icmp_eq (tgt := 1217) hx hb dL_law_590 (by decide) (fun _ => ?_) (fun c9 => absurd (by decide) c9)
        refine lv_iinc (v := 6) (lv' := [(3, .int 6), (2, .ref q_102), (1, .ref q_1), (0, .ref b)]) hx hb dL_law_1217 hl (k := 0) rfl (by decide) (by decide) rfl (fun ls hl => ?_)
        refine lv_goto (tgt := 18) hx hb dL_law_1220 (by decide) ?_
        refine lv_iload_n hx hb dL_law_18 rfl (lv_at hl 0 rfl) ?_
        refine lv_aload_n hx hb dL_law_19 rfl (lv_at hl 3 rfl) ?_
        refine va_slen hx hb hXs hbl hbA hS dL_law_20 ?_
        refine p_ti (v := 6) rfl ?_
        refine lv_bipush (v := 6) hx hb dL_law_21 (by decide) ?_
        refine lv_isub hx hb dL_law_23 ?_
        refine p_ti (v := 0) (by decide +kernel) ?_
        refine lv_icmp_gt (tgt := 1223) hx hb dL_law_24 (by decide) (fun _ => ?_) (fun c9 => absurd (by decide) c9)
        refine lv_iconst (v := 1) hx hb dL_law_1223 (by decide) ?_
        refine va_forget (fun q hq => by have h9 := hS.2.2 q hq; rw [hAe] at h9; exact h9) ?_
        refine W.widen (k := 600000) (n := 7302249) (by decide) (by decide) ?_
        exact lw_ret hx hb hr hlocks dL_law_1224
      · obtain rfl : x_156 = 13 := eh_157
        refine lv_tableIn (tgt := 595) hx hb dL_law_33 (by decide) (by decide) (off := 562) (by decide) (by decide) ?_
        have hP : va_P g.1 vwCl [(q_1, .inr (11, [.ref q_2, .int 0, .ref q_3, .ref q_4, .ref q_5, .ref q_6, .int 0, .int 0, .ref q_7, .int 0, .ref q_8, .ref q_9, .ref q_10, .ref q_11])), (q_6, aO g 41 (va_up (va_up f_58 0 (some q_57)) 1 (some q_56))), (q_57, .inr (9, [.int 0, .int 0, .int 0, .int 0, .int 0, .int 0, .int 0, .ref q_59, .ref q_60, .ref q_61, .ref q_62, .ref q_63, .ref q_64, .ref q_65])), (q_102, .inr (12, [.ref q_103, .ref q_104, .int 0, .int 0, .int 0, .int (-1), .int 0, .int 0, .int 0, .int 0, .long 0, .ref q_105, .ref q_106, .ref q_107, .ref q_108, .ref q_109, .ref q_110, .ref q_111, .ref q_112, .ref q_113, .ref q_114, .ref q_115, .ref q_116, .ref q_117, .ref q_118, .ref q_119, .ref q_120, .ref q_121, .ref q_122, .ref q_123, .ref q_124, .ref q_125, .ref q_126, .ref q_127, .ref q_128, .ref q_129, .ref q_130, .ref q_131, .ref q_132, .ref q_133, .ref q_134, .ref q_135, .ref q_136, .int 0, .int 0, .int 0, .int 0, .int 0, .int 0, .int 0, .int 0, .int 0, .ref q_137, .ref q_138, .int 0, .int 0, .ref q_139, .ref q_140, .ref q_141, .ref q_142, .ref q_143, .ref q_144, .ref q_145, .ref q_146, .ref q_147, .ref q_148, .int 0, .int 0, .int 0, .int 0, .int 0, .int 0, .int 0, .int 0, .int 0, .int 0, .int 0, .int 0, .ref q_149, .ref q_150, .ref q_151, .ref q_152, .ref q_153, .int 0, .int 0, .ref q_154, .ref q_155])), (q_137, aI g 374 z0)] H := hP.sub [0, 14, 15, 58, 69] rfl
        have hD : va_D A [(q_1, .inr (11, [.ref q_2, .int 0, .ref q_3, .ref q_4, .ref q_5, .ref q_6, .int 0, .int 0, .ref q_7, .int 0, .ref q_8, .ref q_9, .ref q_10, .ref q_11])), (q_6, aO g 41 (va_up (va_up f_58 0 (some q_57)) 1 (some q_56))), (q_57, .inr (9, [.int 0, .int 0, .int 0, .int 0, .int 0, .int 0, .int 0, .ref q_59, .ref q_60, .ref q_61, .ref q_62, .ref q_63, .ref q_64, .ref q_65])), (q_102, .inr (12, [.ref q_103, .ref q_104, .int 0, .int 0, .int 0, .int (-1), .int 0, .int 0, .int 0, .int 0, .long 0, .ref q_105, .ref q_106, .ref q_107, .ref q_108, .ref q_109, .ref q_110, .ref q_111, .ref q_112, .ref q_113, .ref q_114, .ref q_115, .ref q_116, .ref q_117, .ref q_118, .ref q_119, .ref q_120, .ref q_121, .ref q_122, .ref q_123, .ref q_124, .ref q_125, .ref q_126, .ref q_127, .ref q_128, .ref q_129, .ref q_130, .ref q_131, .ref q_132, .ref q_133, .ref q_134, .ref q_135, .ref q_136, .int 0, .int 0, .int 0, .int 0, .int 0, .int 0, .int 0, .int 0, .int 0, .ref q_137, .ref q_138, .int 0, .int 0, .ref q_139, .ref q_140, .ref q_141, .ref q_142, .ref q_143, .ref q_144, .ref q_145, .ref q_146, .ref q_147, .ref q_148, .int 0, .int 0, .int 0, .int 0, .int 0, .int 0, .int 0, .int 0, .int 0, .int 0, .int 0, .int 0, .ref q_149, .ref q_150, .ref q_151, .ref q_152, .ref q_153, .int 0, .int 0, .ref q_154, .ref q_155])), (q_137, aI g 374 z0)] := hD.sub [0, 14, 15, 58, 69] (by decide) rfl
        refine lv_aload_n hx hb dL_law_595 rfl (lv_at hl 2 rfl) ?_
        refine lv_aload_n hx hb dL_law_596 rfl (lv_at hl 3 rfl) ?_
        refine lv_iload_n hx hb dL_law_597 rfl (lv_at hl 0 rfl) ?_
        refine lv_iconst (v := 1) hx hb dL_law_598 (by decide) ?_
        refine lv_iadd hx hb dL_law_599 ?_
        refine p_ti (v := 1) (by decide +kernel) ?_
        refine va_sld hx hb hXs hbl hbA hS (i := 1) (by unfold vp_in; decide) dL_law_600 ?_
        refine p_ti (v := xs 1) rfl ?_
        refine lv_aload_n hx hb dL_law_601 rfl (lv_at hl 3 rfl) ?_
        refine lv_iload_n hx hb dL_law_602 rfl (lv_at hl 0 rfl) ?_
        refine lv_iconst (v := 2) hx hb dL_law_603 (by decide) ?_
        refine lv_iadd hx hb dL_law_604 ?_
        refine p_ti (v := 2) (by decide +kernel) ?_
        refine va_sld hx hb hXs hbl hbA hS (i := 2) (by unfold vp_in; decide) dL_law_605 ?_
        refine p_ti (v := xs 2) rfl ?_
        refine lv_aload_n hx hb dL_law_606 rfl (lv_at hl 3 rfl) ?_
        refine lv_iload_n hx hb dL_law_607 rfl (lv_at hl 0 rfl) ?_
        refine lv_iconst (v := 3) hx hb dL_law_608 (by decide) ?_
        refine lv_iadd hx hb dL_law_609 ?_
        refine p_ti (v := 3) (by decide +kernel) ?_
        refine va_sld hx hb hXs hbl hbA hS (i := 3) (by unfold vp_in; decide) dL_law_610 ?_
        refine p_ti (v := xs 3) rfl ?_
        refine k_iR (k_V (n := 3) ⟨hx, hb, hml, hown, hT⟩ hK hP hD [0, 1, 2] rfl (by decide) (c_X11_put l g H.size q_1 q_2 q_3 q_4 q_5 q_6 q_7 q_8 q_9 q_10 q_11 q_56 q_57 q_59 q_60 q_61 q_62 q_63 q_64 q_65 f_58 (xs 1) (xs 2) (xs 3)) (gV bw_620 bw_621 bw_622 bw_207 bw_42) rfl rfl (by decide +kernel) ⟨by decide, by decide⟩ (ci := 11) (q0 := 0) rfl rfl (fun _ _ _ _ _ => trivial) (fun _ _ _ => trivial) rfl rfl hl.1 (Nat.le_of_ble_eq_true rfl) dL_law_611 ⟨by decide, by decide⟩) hP hS hA (fun r_184 _ H locs hw hP hS => ?_)
        have hw : r_184 = (-1) := hw
        subst hw
        refine lv_aload_n hx hb dL_law_614 rfl (lv_at hl 1 rfl) ?_
        refine lv_aload_n hx hb dL_law_615 rfl (lv_at hl 3 rfl) ?_
        refine lv_iload_n hx hb dL_law_616 rfl (lv_at hl 0 rfl) ?_
        refine lv_iconst (v := 1) hx hb dL_law_617 (by decide) ?_
        refine lv_iadd hx hb dL_law_618 ?_
        refine p_ti (v := 1) (by decide +kernel) ?_
        refine va_sld hx hb hXs hbl hbA hS (i := 1) (by unfold vp_in; decide) dL_law_619 ?_
        refine p_ti (v := xs 1) rfl ?_
        refine lv_aload_n hx hb dL_law_620 rfl (lv_at hl 3 rfl) ?_
        refine lv_iload_n hx hb dL_law_621 rfl (lv_at hl 0 rfl) ?_
        refine lv_iconst (v := 2) hx hb dL_law_622 (by decide) ?_
        refine lv_iadd hx hb dL_law_623 ?_
        refine p_ti (v := 2) (by decide +kernel) ?_
        refine va_sld hx hb hXs hbl hbA hS (i := 2) (by unfold vp_in; decide) dL_law_624 ?_
        refine p_ti (v := xs 2) rfl ?_
        refine lv_aload_n hx hb dL_law_625 rfl (lv_at hl 3 rfl) ?_
        refine lv_iload_n hx hb dL_law_626 rfl (lv_at hl 0 rfl) ?_
        refine lv_iconst (v := 3) hx hb dL_law_627 (by decide) ?_
        refine lv_iadd hx hb dL_law_628 ?_
        refine p_ti (v := 3) (by decide +kernel) ?_
        refine va_sld hx hb hXs hbl hbA hS (i := 3) (by unfold vp_in; decide) dL_law_629 ?_
        refine p_ti (v := xs 3) rfl ?_
        refine k_iR (k_V (n := 3) ⟨hx, hb, hml, hown, hT⟩ hK hP hD [3, 4] rfl (by decide) (c_X12_put l g H.size q_102 q_103 q_104 q_105 q_106 q_107 q_108 q_109 q_110 q_111 q_112 q_113 q_114 q_115 q_116 q_117 q_118 q_119 q_120 q_121 q_122 q_123 q_124 q_125 q_126 q_127 q_128 q_129 q_130 q_131 q_132 q_133 q_134 q_135 q_136 q_137 q_138 q_139 q_140 q_141 q_142 q_143 q_144 q_145 q_146 q_147 q_148 q_149 q_150 q_151 q_152 q_153 q_154 q_155 (xs 1) (xs 2) (xs 3)) (gV bw_623 bw_624 bw_625 bw_233 bw_254) rfl rfl (by decide +kernel) ⟨by decide, by decide⟩ (ci := 12) (q0 := 0) rfl rfl (fun _ _ _ _ _ => trivial) (fun _ _ _ => trivial) rfl rfl hl.1 (Nat.le_of_ble_eq_true rfl) dL_law_630 ⟨by decide, by decide⟩) hP hS hA (fun r_185 _ H locs hw hP hS => ?_)
        have hw : r_185 = (-1) := hw
        subst hw
        refine lv_icmp_eq (tgt := 1217) hx hb dL_law_633 (by decide) (fun _ => ?_) (fun c9 => absurd (by decide) c9)
        refine lv_iinc (v := 6) (lv' := [(3, .int 6), (2, .ref q_102), (1, .ref q_1), (0, .ref b)]) hx hb dL_law_1217 hl (k := 0) rfl (by decide) (by decide) rfl (fun ls hl => ?_)
        refine lv_goto (tgt := 18) hx hb dL_law_1220 (by decide) ?_
        refine lv_iload_n hx hb dL_law_18 rfl (lv_at hl 0 rfl) ?_
        refine lv_aload_n hx hb dL_law_19 rfl (lv_at hl 3 rfl) ?_
        refine va_slen hx hb hXs hbl hbA hS dL_law_20 ?_
        refine p_ti (v := 6) rfl ?_
        refine lv_bipush (v := 6) hx hb dL_law_21 (by decide) ?_
        refine lv_isub hx hb dL_law_23 ?_
        refine p_ti (v := 0) (by decide +kernel) ?_
        refine lv_icmp_gt (tgt := 1223) hx hb dL_law_24 (by decide) (fun _ => ?_) (fun c9 => absurd (by decide) c9)
        refine lv_iconst (v := 1) hx hb dL_law_1223 (by decide) ?_
        refine va_forget (fun q hq => by have h9 := hS.2.2 q hq; rw [hAe] at h9; exact h9) ?_
        refine W.widen (k := 600000) (n := 7302249) (by decide) (by decide) ?_
        exact lw_ret hx hb hr hlocks dL_law_1224
      · obtain rfl : x_156 = 14 := eh_157
        refine lv_tableIn (tgt := 638) hx hb dL_law_33 (by decide) (by decide) (off := 605) (by decide) (by decide) ?_
        have hP : va_P g.1 vwCl [(q_1, .inr (11, [.ref q_2, .int 0, .ref q_3, .ref q_4, .ref q_5, .ref q_6, .int 0, .int 0, .ref q_7, .int 0, .ref q_8, .ref q_9, .ref q_10, .ref q_11])), (q_4, .inr (2, [.ref q_14, .ref q_15, .ref q_16, .int 0, .ref q_17, .ref q_18, .int 9, .int 0, .ref q_19])), (q_14, .inr (3, [.int 0, .ref q_20, .ref q_21, .ref q_22, .ref q_23])), (q_6, aO g 41 (va_up (va_up f_58 0 (some q_57)) 1 (some q_56))), (q_102, .inr (12, [.ref q_103, .ref q_104, .int 0, .int 0, .int 0, .int (-1), .int 0, .int 0, .int 0, .int 0, .long 0, .ref q_105, .ref q_106, .ref q_107, .ref q_108, .ref q_109, .ref q_110, .ref q_111, .ref q_112, .ref q_113, .ref q_114, .ref q_115, .ref q_116, .ref q_117, .ref q_118, .ref q_119, .ref q_120, .ref q_121, .ref q_122, .ref q_123, .ref q_124, .ref q_125, .ref q_126, .ref q_127, .ref q_128, .ref q_129, .ref q_130, .ref q_131, .ref q_132, .ref q_133, .ref q_134, .ref q_135, .ref q_136, .int 0, .int 0, .int 0, .int 0, .int 0, .int 0, .int 0, .int 0, .int 0, .ref q_137, .ref q_138, .int 0, .int 0, .ref q_139, .ref q_140, .ref q_141, .ref q_142, .ref q_143, .ref q_144, .ref q_145, .ref q_146, .ref q_147, .ref q_148, .int 0, .int 0, .int 0, .int 0, .int 0, .int 0, .int 0, .int 0, .int 0, .int 0, .int 0, .int 0, .ref q_149, .ref q_150, .ref q_151, .ref q_152, .ref q_153, .int 0, .int 0, .ref q_154, .ref q_155])), (q_105, aI g 2 z0)] H := hP.sub [0, 4, 5, 14, 58, 60] rfl
        have hD : va_D A [(q_1, .inr (11, [.ref q_2, .int 0, .ref q_3, .ref q_4, .ref q_5, .ref q_6, .int 0, .int 0, .ref q_7, .int 0, .ref q_8, .ref q_9, .ref q_10, .ref q_11])), (q_4, .inr (2, [.ref q_14, .ref q_15, .ref q_16, .int 0, .ref q_17, .ref q_18, .int 9, .int 0, .ref q_19])), (q_14, .inr (3, [.int 0, .ref q_20, .ref q_21, .ref q_22, .ref q_23])), (q_6, aO g 41 (va_up (va_up f_58 0 (some q_57)) 1 (some q_56))), (q_102, .inr (12, [.ref q_103, .ref q_104, .int 0, .int 0, .int 0, .int (-1), .int 0, .int 0, .int 0, .int 0, .long 0, .ref q_105, .ref q_106, .ref q_107, .ref q_108, .ref q_109, .ref q_110, .ref q_111, .ref q_112, .ref q_113, .ref q_114, .ref q_115, .ref q_116, .ref q_117, .ref q_118, .ref q_119, .ref q_120, .ref q_121, .ref q_122, .ref q_123, .ref q_124, .ref q_125, .ref q_126, .ref q_127, .ref q_128, .ref q_129, .ref q_130, .ref q_131, .ref q_132, .ref q_133, .ref q_134, .ref q_135, .ref q_136, .int 0, .int 0, .int 0, .int 0, .int 0, .int 0, .int 0, .int 0, .int 0, .ref q_137, .ref q_138, .int 0, .int 0, .ref q_139, .ref q_140, .ref q_141, .ref q_142, .ref q_143, .ref q_144, .ref q_145, .ref q_146, .ref q_147, .ref q_148, .int 0, .int 0, .int 0, .int 0, .int 0, .int 0, .int 0, .int 0, .int 0, .int 0, .int 0, .int 0, .ref q_149, .ref q_150, .ref q_151, .ref q_152, .ref q_153, .int 0, .int 0, .ref q_154, .ref q_155])), (q_105, aI g 2 z0)] := hD.sub [0, 4, 5, 14, 58, 60] (by decide) rfl
        refine lv_aload_n hx hb dL_law_638 rfl (lv_at hl 2 rfl) ?_
        refine lv_aload_n hx hb dL_law_639 rfl (lv_at hl 3 rfl) ?_
        refine lv_iload_n hx hb dL_law_640 rfl (lv_at hl 0 rfl) ?_
        refine lv_iconst (v := 1) hx hb dL_law_641 (by decide) ?_
        refine lv_iadd hx hb dL_law_642 ?_
        refine p_ti (v := 1) (by decide +kernel) ?_
        refine va_sld hx hb hXs hbl hbA hS (i := 1) (by unfold vp_in; decide) dL_law_643 ?_
        refine p_ti (v := xs 1) rfl ?_
        refine lv_aload_n hx hb dL_law_644 rfl (lv_at hl 3 rfl) ?_
        refine lv_iload_n hx hb dL_law_645 rfl (lv_at hl 0 rfl) ?_
        refine lv_iconst (v := 2) hx hb dL_law_646 (by decide) ?_
        refine lv_iadd hx hb dL_law_647 ?_
        refine p_ti (v := 2) (by decide +kernel) ?_
        refine va_sld hx hb hXs hbl hbA hS (i := 2) (by unfold vp_in; decide) dL_law_648 ?_
        refine p_ti (v := xs 2) rfl ?_
        refine k_iR (k_V (n := 2) ⟨hx, hb, hml, hown, hT⟩ hK hP hD [0, 1, 2, 3] rfl (by decide) (c_X11_rent l g H.size q_1 q_2 q_3 q_4 q_5 q_6 q_7 q_8 q_9 q_10 q_11 q_14 q_15 q_16 q_17 q_18 q_19 q_20 q_21 q_22 q_23 q_56 q_57 f_58 (xs 1) (xs 2)) (gV bw_626 bw_627 bw_628 bw_207 bw_43) rfl rfl (by decide +kernel) ⟨by decide, by decide⟩ (ci := 11) (q0 := 0) rfl rfl (fun _ _ _ _ _ => trivial) (fun _ _ _ => trivial) rfl rfl hl.1 (Nat.le_of_ble_eq_true rfl) dL_law_649 ⟨by decide, by decide⟩) hP hS hA (fun r_186 _ H locs hw hP hS => ?_)
        have hw : r_186 = (-1) := hw
        subst hw
        refine lv_aload_n hx hb dL_law_652 rfl (lv_at hl 1 rfl) ?_
        refine lv_aload_n hx hb dL_law_653 rfl (lv_at hl 3 rfl) ?_
        refine lv_iload_n hx hb dL_law_654 rfl (lv_at hl 0 rfl) ?_
        refine lv_iconst (v := 1) hx hb dL_law_655 (by decide) ?_
        refine lv_iadd hx hb dL_law_656 ?_
        refine p_ti (v := 1) (by decide +kernel) ?_
        refine va_sld hx hb hXs hbl hbA hS (i := 1) (by unfold vp_in; decide) dL_law_657 ?_
        refine p_ti (v := xs 1) rfl ?_
        refine lv_aload_n hx hb dL_law_658 rfl (lv_at hl 3 rfl) ?_
        refine lv_iload_n hx hb dL_law_659 rfl (lv_at hl 0 rfl) ?_
        refine lv_iconst (v := 2) hx hb dL_law_660 (by decide) ?_
        refine lv_iadd hx hb dL_law_661 ?_
        refine p_ti (v := 2) (by decide +kernel) ?_
        refine va_sld hx hb hXs hbl hbA hS (i := 2) (by unfold vp_in; decide) dL_law_662 ?_
        refine p_ti (v := xs 2) rfl ?_
        refine k_iR (k_V (n := 2) ⟨hx, hb, hml, hown, hT⟩ hK hP hD [4, 5] rfl (by decide) (c_X12_rent l g H.size q_102 q_103 q_104 q_105 q_106 q_107 q_108 q_109 q_110 q_111 q_112 q_113 q_114 q_115 q_116 q_117 q_118 q_119 q_120 q_121 q_122 q_123 q_124 q_125 q_126 q_127 q_128 q_129 q_130 q_131 q_132 q_133 q_134 q_135 q_136 q_137 q_138 q_139 q_140 q_141 q_142 q_143 q_144 q_145 q_146 q_147 q_148 q_149 q_150 q_151 q_152 q_153 q_154 q_155 (xs 1) (xs 2)) (gV bw_629 bw_630 bw_631 bw_233 bw_255) rfl rfl (by decide +kernel) ⟨by decide, by decide⟩ (ci := 12) (q0 := 0) rfl rfl (fun _ _ _ _ _ => trivial) (fun _ _ _ => trivial) rfl rfl hl.1 (Nat.le_of_ble_eq_true rfl) dL_law_663 ⟨by decide, by decide⟩) hP hS hA (fun r_187 _ H locs hw hP hS => ?_)
        have hw : r_187 = (-1) := hw
        subst hw
        refine lv_icmp_eq (tgt := 1217) hx hb dL_law_666 (by decide) (fun _ => ?_) (fun c9 => absurd (by decide) c9)
        refine lv_iinc (v := 6) (lv' := [(3, .int 6), (2, .ref q_102), (1, .ref q_1), (0, .ref b)]) hx hb dL_law_1217 hl (k := 0) rfl (by decide) (by decide) rfl (fun ls hl => ?_)
        refine lv_goto (tgt := 18) hx hb dL_law_1220 (by decide) ?_
        refine lv_iload_n hx hb dL_law_18 rfl (lv_at hl 0 rfl) ?_
        refine lv_aload_n hx hb dL_law_19 rfl (lv_at hl 3 rfl) ?_
        refine va_slen hx hb hXs hbl hbA hS dL_law_20 ?_
        refine p_ti (v := 6) rfl ?_
        refine lv_bipush (v := 6) hx hb dL_law_21 (by decide) ?_
        refine lv_isub hx hb dL_law_23 ?_
        refine p_ti (v := 0) (by decide +kernel) ?_
        refine lv_icmp_gt (tgt := 1223) hx hb dL_law_24 (by decide) (fun _ => ?_) (fun c9 => absurd (by decide) c9)
        refine lv_iconst (v := 1) hx hb dL_law_1223 (by decide) ?_
        refine va_forget (fun q hq => by have h9 := hS.2.2 q hq; rw [hAe] at h9; exact h9) ?_
        refine W.widen (k := 600000) (n := 7302249) (by decide) (by decide) ?_
        exact lw_ret hx hb hr hlocks dL_law_1224
      · obtain rfl : x_156 = 15 := eh_157
        refine lv_tableIn (tgt := 671) hx hb dL_law_33 (by decide) (by decide) (off := 638) (by decide) (by decide) ?_
        have hP : va_P g.1 vwCl [(q_1, .inr (11, [.ref q_2, .int 0, .ref q_3, .ref q_4, .ref q_5, .ref q_6, .int 0, .int 0, .ref q_7, .int 0, .ref q_8, .ref q_9, .ref q_10, .ref q_11])), (q_4, .inr (2, [.ref q_14, .ref q_15, .ref q_16, .int 0, .ref q_17, .ref q_18, .int 9, .int 0, .ref q_19])), (q_16, .inr (6, [.int 0, .ref q_28, .ref q_29, .ref q_30, .ref q_31, .ref q_32, .ref q_33, .ref q_34])), (q_102, .inr (12, [.ref q_103, .ref q_104, .int 0, .int 0, .int 0, .int (-1), .int 0, .int 0, .int 0, .int 0, .long 0, .ref q_105, .ref q_106, .ref q_107, .ref q_108, .ref q_109, .ref q_110, .ref q_111, .ref q_112, .ref q_113, .ref q_114, .ref q_115, .ref q_116, .ref q_117, .ref q_118, .ref q_119, .ref q_120, .ref q_121, .ref q_122, .ref q_123, .ref q_124, .ref q_125, .ref q_126, .ref q_127, .ref q_128, .ref q_129, .ref q_130, .ref q_131, .ref q_132, .ref q_133, .ref q_134, .ref q_135, .ref q_136, .int 0, .int 0, .int 0, .int 0, .int 0, .int 0, .int 0, .int 0, .int 0, .ref q_137, .ref q_138, .int 0, .int 0, .ref q_139, .ref q_140, .ref q_141, .ref q_142, .ref q_143, .ref q_144, .ref q_145, .ref q_146, .ref q_147, .ref q_148, .int 0, .int 0, .int 0, .int 0, .int 0, .int 0, .int 0, .int 0, .int 0, .int 0, .int 0, .int 0, .ref q_149, .ref q_150, .ref q_151, .ref q_152, .ref q_153, .int 0, .int 0, .ref q_154, .ref q_155])), (q_107, aI g 2 z0)] H := hP.sub [0, 4, 7, 58, 62] rfl
        have hD : va_D A [(q_1, .inr (11, [.ref q_2, .int 0, .ref q_3, .ref q_4, .ref q_5, .ref q_6, .int 0, .int 0, .ref q_7, .int 0, .ref q_8, .ref q_9, .ref q_10, .ref q_11])), (q_4, .inr (2, [.ref q_14, .ref q_15, .ref q_16, .int 0, .ref q_17, .ref q_18, .int 9, .int 0, .ref q_19])), (q_16, .inr (6, [.int 0, .ref q_28, .ref q_29, .ref q_30, .ref q_31, .ref q_32, .ref q_33, .ref q_34])), (q_102, .inr (12, [.ref q_103, .ref q_104, .int 0, .int 0, .int 0, .int (-1), .int 0, .int 0, .int 0, .int 0, .long 0, .ref q_105, .ref q_106, .ref q_107, .ref q_108, .ref q_109, .ref q_110, .ref q_111, .ref q_112, .ref q_113, .ref q_114, .ref q_115, .ref q_116, .ref q_117, .ref q_118, .ref q_119, .ref q_120, .ref q_121, .ref q_122, .ref q_123, .ref q_124, .ref q_125, .ref q_126, .ref q_127, .ref q_128, .ref q_129, .ref q_130, .ref q_131, .ref q_132, .ref q_133, .ref q_134, .ref q_135, .ref q_136, .int 0, .int 0, .int 0, .int 0, .int 0, .int 0, .int 0, .int 0, .int 0, .ref q_137, .ref q_138, .int 0, .int 0, .ref q_139, .ref q_140, .ref q_141, .ref q_142, .ref q_143, .ref q_144, .ref q_145, .ref q_146, .ref q_147, .ref q_148, .int 0, .int 0, .int 0, .int 0, .int 0, .int 0, .int 0, .int 0, .int 0, .int 0, .int 0, .int 0, .ref q_149, .ref q_150, .ref q_151, .ref q_152, .ref q_153, .int 0, .int 0, .ref q_154, .ref q_155])), (q_107, aI g 2 z0)] := hD.sub [0, 4, 7, 58, 62] (by decide) rfl
        refine lv_aload_n hx hb dL_law_671 rfl (lv_at hl 2 rfl) ?_
        refine lv_aload_n hx hb dL_law_672 rfl (lv_at hl 3 rfl) ?_
        refine lv_iload_n hx hb dL_law_673 rfl (lv_at hl 0 rfl) ?_
        refine lv_iconst (v := 1) hx hb dL_law_674 (by decide) ?_
        refine lv_iadd hx hb dL_law_675 ?_
        refine p_ti (v := 1) (by decide +kernel) ?_
        refine va_sld hx hb hXs hbl hbA hS (i := 1) (by unfold vp_in; decide) dL_law_676 ?_
        refine p_ti (v := xs 1) rfl ?_
        refine k_iR (k_V (n := 1) ⟨hx, hb, hml, hown, hT⟩ hK hP hD [0, 1, 2] rfl (by decide) (c_X11_strike l g H.size q_1 q_2 q_3 q_4 q_5 q_6 q_7 q_8 q_9 q_10 q_11 q_14 q_15 q_16 q_17 q_18 q_19 q_28 q_29 q_30 q_31 q_32 q_33 q_34 (xs 1)) (gV bw_632 bw_633 bw_634 bw_207 bw_44) rfl rfl (by decide +kernel) ⟨by decide, by decide⟩ (ci := 11) (q0 := 0) rfl rfl (fun _ _ _ _ _ => trivial) (fun _ _ _ => trivial) rfl rfl hl.1 (Nat.le_of_ble_eq_true rfl) dL_law_677 ⟨by decide, by decide⟩) hP hS hA (fun r_188 _ H locs hw hP hS => ?_)
        have hw : r_188 = 0 := hw
        subst hw
        refine lv_aload_n hx hb dL_law_680 rfl (lv_at hl 1 rfl) ?_
        refine lv_aload_n hx hb dL_law_681 rfl (lv_at hl 3 rfl) ?_
        refine lv_iload_n hx hb dL_law_682 rfl (lv_at hl 0 rfl) ?_
        refine lv_iconst (v := 1) hx hb dL_law_683 (by decide) ?_
        refine lv_iadd hx hb dL_law_684 ?_
        refine p_ti (v := 1) (by decide +kernel) ?_
        refine va_sld hx hb hXs hbl hbA hS (i := 1) (by unfold vp_in; decide) dL_law_685 ?_
        refine p_ti (v := xs 1) rfl ?_
        refine k_iR (k_V (n := 1) ⟨hx, hb, hml, hown, hT⟩ hK hP hD [3, 4] rfl (by decide) (c_X12_strike l g H.size q_102 q_103 q_104 q_105 q_106 q_107 q_108 q_109 q_110 q_111 q_112 q_113 q_114 q_115 q_116 q_117 q_118 q_119 q_120 q_121 q_122 q_123 q_124 q_125 q_126 q_127 q_128 q_129 q_130 q_131 q_132 q_133 q_134 q_135 q_136 q_137 q_138 q_139 q_140 q_141 q_142 q_143 q_144 q_145 q_146 q_147 q_148 q_149 q_150 q_151 q_152 q_153 q_154 q_155 (xs 1)) (gV bw_635 bw_636 bw_637 bw_233 bw_256) rfl rfl (by decide +kernel) ⟨by decide, by decide⟩ (ci := 12) (q0 := 0) rfl rfl (fun _ _ _ _ _ => trivial) (fun _ _ _ => trivial) rfl rfl hl.1 (Nat.le_of_ble_eq_true rfl) dL_law_686 ⟨by decide, by decide⟩) hP hS hA (fun r_189 _ H locs hw hP hS => ?_)
        have hw : r_189 = 0 := hw
        subst hw
        refine lv_icmp_eq (tgt := 1217) hx hb dL_law_689 (by decide) (fun _ => ?_) (fun c9 => absurd (by decide) c9)
        refine lv_iinc (v := 6) (lv' := [(3, .int 6), (2, .ref q_102), (1, .ref q_1), (0, .ref b)]) hx hb dL_law_1217 hl (k := 0) rfl (by decide) (by decide) rfl (fun ls hl => ?_)
        refine lv_goto (tgt := 18) hx hb dL_law_1220 (by decide) ?_
        refine lv_iload_n hx hb dL_law_18 rfl (lv_at hl 0 rfl) ?_
        refine lv_aload_n hx hb dL_law_19 rfl (lv_at hl 3 rfl) ?_
        refine va_slen hx hb hXs hbl hbA hS dL_law_20 ?_
        refine p_ti (v := 6) rfl ?_
        refine lv_bipush (v := 6) hx hb dL_law_21 (by decide) ?_
        refine lv_isub hx hb dL_law_23 ?_
        refine p_ti (v := 0) (by decide +kernel) ?_
        refine lv_icmp_gt (tgt := 1223) hx hb dL_law_24 (by decide) (fun _ => ?_) (fun c9 => absurd (by decide) c9)
        refine lv_iconst (v := 1) hx hb dL_law_1223 (by decide) ?_
        refine va_forget (fun q hq => by have h9 := hS.2.2 q hq; rw [hAe] at h9; exact h9) ?_
        refine W.widen (k := 600000) (n := 7302249) (by decide) (by decide) ?_
        exact lw_ret hx hb hr hlocks dL_law_1224
      · obtain rfl : x_156 = 16 := eh_157
        refine lv_tableIn (tgt := 694) hx hb dL_law_33 (by decide) (by decide) (off := 661) (by decide) (by decide) ?_
        have hP : va_P g.1 vwCl [(q_1, .inr (11, [.ref q_2, .int 0, .ref q_3, .ref q_4, .ref q_5, .ref q_6, .int 0, .int 0, .ref q_7, .int 0, .ref q_8, .ref q_9, .ref q_10, .ref q_11])), (q_4, .inr (2, [.ref q_14, .ref q_15, .ref q_16, .int 0, .ref q_17, .ref q_18, .int 9, .int 0, .ref q_19])), (q_14, .inr (3, [.int 0, .ref q_20, .ref q_21, .ref q_22, .ref q_23])), (q_6, aO g 41 (va_up (va_up f_58 0 (some q_57)) 1 (some q_56))), (q_102, .inr (12, [.ref q_103, .ref q_104, .int 0, .int 0, .int 0, .int (-1), .int 0, .int 0, .int 0, .int 0, .long 0, .ref q_105, .ref q_106, .ref q_107, .ref q_108, .ref q_109, .ref q_110, .ref q_111, .ref q_112, .ref q_113, .ref q_114, .ref q_115, .ref q_116, .ref q_117, .ref q_118, .ref q_119, .ref q_120, .ref q_121, .ref q_122, .ref q_123, .ref q_124, .ref q_125, .ref q_126, .ref q_127, .ref q_128, .ref q_129, .ref q_130, .ref q_131, .ref q_132, .ref q_133, .ref q_134, .ref q_135, .ref q_136, .int 0, .int 0, .int 0, .int 0, .int 0, .int 0, .int 0, .int 0, .int 0, .ref q_137, .ref q_138, .int 0, .int 0, .ref q_139, .ref q_140, .ref q_141, .ref q_142, .ref q_143, .ref q_144, .ref q_145, .ref q_146, .ref q_147, .ref q_148, .int 0, .int 0, .int 0, .int 0, .int 0, .int 0, .int 0, .int 0, .int 0, .int 0, .int 0, .int 0, .ref q_149, .ref q_150, .ref q_151, .ref q_152, .ref q_153, .int 0, .int 0, .ref q_154, .ref q_155])), (q_105, aI g 2 z0)] H := hP.sub [0, 4, 5, 14, 58, 60] rfl
        have hD : va_D A [(q_1, .inr (11, [.ref q_2, .int 0, .ref q_3, .ref q_4, .ref q_5, .ref q_6, .int 0, .int 0, .ref q_7, .int 0, .ref q_8, .ref q_9, .ref q_10, .ref q_11])), (q_4, .inr (2, [.ref q_14, .ref q_15, .ref q_16, .int 0, .ref q_17, .ref q_18, .int 9, .int 0, .ref q_19])), (q_14, .inr (3, [.int 0, .ref q_20, .ref q_21, .ref q_22, .ref q_23])), (q_6, aO g 41 (va_up (va_up f_58 0 (some q_57)) 1 (some q_56))), (q_102, .inr (12, [.ref q_103, .ref q_104, .int 0, .int 0, .int 0, .int (-1), .int 0, .int 0, .int 0, .int 0, .long 0, .ref q_105, .ref q_106, .ref q_107, .ref q_108, .ref q_109, .ref q_110, .ref q_111, .ref q_112, .ref q_113, .ref q_114, .ref q_115, .ref q_116, .ref q_117, .ref q_118, .ref q_119, .ref q_120, .ref q_121, .ref q_122, .ref q_123, .ref q_124, .ref q_125, .ref q_126, .ref q_127, .ref q_128, .ref q_129, .ref q_130, .ref q_131, .ref q_132, .ref q_133, .ref q_134, .ref q_135, .ref q_136, .int 0, .int 0, .int 0, .int 0, .int 0, .int 0, .int 0, .int 0, .int 0, .ref q_137, .ref q_138, .int 0, .int 0, .ref q_139, .ref q_140, .ref q_141, .ref q_142, .ref q_143, .ref q_144, .ref q_145, .ref q_146, .ref q_147, .ref q_148, .int 0, .int 0, .int 0, .int 0, .int 0, .int 0, .int 0, .int 0, .int 0, .int 0, .int 0, .int 0, .ref q_149, .ref q_150, .ref q_151, .ref q_152, .ref q_153, .int 0, .int 0, .ref q_154, .ref q_155])), (q_105, aI g 2 z0)] := hD.sub [0, 4, 5, 14, 58, 60] (by decide) rfl
        refine lv_aload_n hx hb dL_law_694 rfl (lv_at hl 2 rfl) ?_
        refine lv_aload_n hx hb dL_law_695 rfl (lv_at hl 3 rfl) ?_
        refine lv_iload_n hx hb dL_law_696 rfl (lv_at hl 0 rfl) ?_
        refine lv_iconst (v := 1) hx hb dL_law_697 (by decide) ?_
        refine lv_iadd hx hb dL_law_698 ?_
        refine p_ti (v := 1) (by decide +kernel) ?_
        refine va_sld hx hb hXs hbl hbA hS (i := 1) (by unfold vp_in; decide) dL_law_699 ?_
        refine p_ti (v := xs 1) rfl ?_
        refine lv_aload_n hx hb dL_law_700 rfl (lv_at hl 3 rfl) ?_
        refine lv_iload_n hx hb dL_law_701 rfl (lv_at hl 0 rfl) ?_
        refine lv_iconst (v := 2) hx hb dL_law_702 (by decide) ?_
        refine lv_iadd hx hb dL_law_703 ?_
        refine p_ti (v := 2) (by decide +kernel) ?_
        refine va_sld hx hb hXs hbl hbA hS (i := 2) (by unfold vp_in; decide) dL_law_704 ?_
        refine p_ti (v := xs 2) rfl ?_
        refine k_iR (k_V (n := 2) ⟨hx, hb, hml, hown, hT⟩ hK hP hD [0, 1, 2, 3] rfl (by decide) (c_X11_insult l g H.size q_1 q_2 q_3 q_4 q_5 q_6 q_7 q_8 q_9 q_10 q_11 q_14 q_15 q_16 q_17 q_18 q_19 q_20 q_21 q_22 q_23 q_56 q_57 f_58 (xs 1) (xs 2)) (gV bw_638 bw_639 bw_640 bw_207 bw_45) rfl rfl (by decide +kernel) ⟨by decide, by decide⟩ (ci := 11) (q0 := 0) rfl rfl (fun _ _ _ _ _ => trivial) (fun _ _ _ => trivial) rfl rfl hl.1 (Nat.le_of_ble_eq_true rfl) dL_law_705 ⟨by decide, by decide⟩) hP hS hA (fun r_190 _ H locs hw hP hS => ?_)
        have hw : r_190 = (-1) := hw
        subst hw
        refine lv_aload_n hx hb dL_law_708 rfl (lv_at hl 1 rfl) ?_
        refine lv_aload_n hx hb dL_law_709 rfl (lv_at hl 3 rfl) ?_
        refine lv_iload_n hx hb dL_law_710 rfl (lv_at hl 0 rfl) ?_
        refine lv_iconst (v := 1) hx hb dL_law_711 (by decide) ?_
        refine lv_iadd hx hb dL_law_712 ?_
        refine p_ti (v := 1) (by decide +kernel) ?_
        refine va_sld hx hb hXs hbl hbA hS (i := 1) (by unfold vp_in; decide) dL_law_713 ?_
        refine p_ti (v := xs 1) rfl ?_
        refine lv_aload_n hx hb dL_law_714 rfl (lv_at hl 3 rfl) ?_
        refine lv_iload_n hx hb dL_law_715 rfl (lv_at hl 0 rfl) ?_
        refine lv_iconst (v := 2) hx hb dL_law_716 (by decide) ?_
        refine lv_iadd hx hb dL_law_717 ?_
        refine p_ti (v := 2) (by decide +kernel) ?_
        refine va_sld hx hb hXs hbl hbA hS (i := 2) (by unfold vp_in; decide) dL_law_718 ?_
        refine p_ti (v := xs 2) rfl ?_
        refine k_iR (k_V (n := 2) ⟨hx, hb, hml, hown, hT⟩ hK hP hD [4, 5] rfl (by decide) (c_X12_insult l g H.size q_102 q_103 q_104 q_105 q_106 q_107 q_108 q_109 q_110 q_111 q_112 q_113 q_114 q_115 q_116 q_117 q_118 q_119 q_120 q_121 q_122 q_123 q_124 q_125 q_126 q_127 q_128 q_129 q_130 q_131 q_132 q_133 q_134 q_135 q_136 q_137 q_138 q_139 q_140 q_141 q_142 q_143 q_144 q_145 q_146 q_147 q_148 q_149 q_150 q_151 q_152 q_153 q_154 q_155 (xs 1) (xs 2)) (gV bw_641 bw_642 bw_643 bw_233 bw_257) rfl rfl (by decide +kernel) ⟨by decide, by decide⟩ (ci := 12) (q0 := 0) rfl rfl (fun _ _ _ _ _ => trivial) (fun _ _ _ => trivial) rfl rfl hl.1 (Nat.le_of_ble_eq_true rfl) dL_law_719 ⟨by decide, by decide⟩) hP hS hA (fun r_191 _ H locs hw hP hS => ?_)
        have hw : r_191 = (-1) := hw
        subst hw
        refine lv_icmp_eq (tgt := 1217) hx hb dL_law_722 (by decide) (fun _ => ?_) (fun c9 => absurd (by decide) c9)
        refine lv_iinc (v := 6) (lv' := [(3, .int 6), (2, .ref q_102), (1, .ref q_1), (0, .ref b)]) hx hb dL_law_1217 hl (k := 0) rfl (by decide) (by decide) rfl (fun ls hl => ?_)
        refine lv_goto (tgt := 18) hx hb dL_law_1220 (by decide) ?_
        refine lv_iload_n hx hb dL_law_18 rfl (lv_at hl 0 rfl) ?_
        refine lv_aload_n hx hb dL_law_19 rfl (lv_at hl 3 rfl) ?_
        refine va_slen hx hb hXs hbl hbA hS dL_law_20 ?_
        refine p_ti (v := 6) rfl ?_
        refine lv_bipush (v := 6) hx hb dL_law_21 (by decide) ?_
        refine lv_isub hx hb dL_law_23 ?_
        refine p_ti (v := 0) (by decide +kernel) ?_
        refine lv_icmp_gt (tgt := 1223) hx hb dL_law_24 (by decide) (fun _ => ?_) (fun c9 => absurd (by decide) c9)
        refine lv_iconst (v := 1) hx hb dL_law_1223 (by decide) ?_
        refine va_forget (fun q hq => by have h9 := hS.2.2 q hq; rw [hAe] at h9; exact h9) ?_
        refine W.widen (k := 600000) (n := 7302249) (by decide) (by decide) ?_
        exact lw_ret hx hb hr hlocks dL_law_1224
      · obtain rfl : x_156 = 17 := eh_157
        refine lv_tableIn (tgt := 727) hx hb dL_law_33 (by decide) (by decide) (off := 694) (by decide) (by decide) ?_
        have hP : va_P g.1 vwCl [(q_1, .inr (11, [.ref q_2, .int 0, .ref q_3, .ref q_4, .ref q_5, .ref q_6, .int 0, .int 0, .ref q_7, .int 0, .ref q_8, .ref q_9, .ref q_10, .ref q_11])), (q_4, .inr (2, [.ref q_14, .ref q_15, .ref q_16, .int 0, .ref q_17, .ref q_18, .int 9, .int 0, .ref q_19])), (q_14, .inr (3, [.int 0, .ref q_20, .ref q_21, .ref q_22, .ref q_23])), (q_6, aO g 41 (va_up (va_up f_58 0 (some q_57)) 1 (some q_56))), (q_57, .inr (9, [.int 0, .int 0, .int 0, .int 0, .int 0, .int 0, .int 0, .ref q_59, .ref q_60, .ref q_61, .ref q_62, .ref q_63, .ref q_64, .ref q_65])), (q_59, aI g 6 z0), (q_60, aI g 6 z0), (q_61, aI g 8 z0), (q_62, aI g 8 z0), (q_63, aI g 8 z0), (q_64, aI g 16 z0), (q_65, aI g 60 z0), (q_56, .inr (9, [.int 0, .int 0, .int 0, .int 0, .int 0, .int 0, .int 0, .ref q_66, .ref q_67, .ref q_68, .ref q_69, .ref q_70, .ref q_71, .ref q_72])), (q_66, aI g 6 z0), (q_67, aI g 6 z0), (q_68, aI g 8 z0), (q_69, aI g 8 z0), (q_70, aI g 8 z0), (q_71, aI g 16 z0), (q_72, aI g 60 z0), (q_102, .inr (12, [.ref q_103, .ref q_104, .int 0, .int 0, .int 0, .int (-1), .int 0, .int 0, .int 0, .int 0, .long 0, .ref q_105, .ref q_106, .ref q_107, .ref q_108, .ref q_109, .ref q_110, .ref q_111, .ref q_112, .ref q_113, .ref q_114, .ref q_115, .ref q_116, .ref q_117, .ref q_118, .ref q_119, .ref q_120, .ref q_121, .ref q_122, .ref q_123, .ref q_124, .ref q_125, .ref q_126, .ref q_127, .ref q_128, .ref q_129, .ref q_130, .ref q_131, .ref q_132, .ref q_133, .ref q_134, .ref q_135, .ref q_136, .int 0, .int 0, .int 0, .int 0, .int 0, .int 0, .int 0, .int 0, .int 0, .ref q_137, .ref q_138, .int 0, .int 0, .ref q_139, .ref q_140, .ref q_141, .ref q_142, .ref q_143, .ref q_144, .ref q_145, .ref q_146, .ref q_147, .ref q_148, .int 0, .int 0, .int 0, .int 0, .int 0, .int 0, .int 0, .int 0, .int 0, .int 0, .int 0, .int 0, .ref q_149, .ref q_150, .ref q_151, .ref q_152, .ref q_153, .int 0, .int 0, .ref q_154, .ref q_155])), (q_105, aI g 2 z0), (q_137, aI g 374 z0), (q_138, aI g 15334 z0)] H := hP.sub [0, 4, 5, 14, 15, 16, 17, 18, 19, 20, 21, 22, 23, 24, 25, 26, 27, 28, 29, 30, 58, 60, 69, 70] rfl
        have hD : va_D A [(q_1, .inr (11, [.ref q_2, .int 0, .ref q_3, .ref q_4, .ref q_5, .ref q_6, .int 0, .int 0, .ref q_7, .int 0, .ref q_8, .ref q_9, .ref q_10, .ref q_11])), (q_4, .inr (2, [.ref q_14, .ref q_15, .ref q_16, .int 0, .ref q_17, .ref q_18, .int 9, .int 0, .ref q_19])), (q_14, .inr (3, [.int 0, .ref q_20, .ref q_21, .ref q_22, .ref q_23])), (q_6, aO g 41 (va_up (va_up f_58 0 (some q_57)) 1 (some q_56))), (q_57, .inr (9, [.int 0, .int 0, .int 0, .int 0, .int 0, .int 0, .int 0, .ref q_59, .ref q_60, .ref q_61, .ref q_62, .ref q_63, .ref q_64, .ref q_65])), (q_59, aI g 6 z0), (q_60, aI g 6 z0), (q_61, aI g 8 z0), (q_62, aI g 8 z0), (q_63, aI g 8 z0), (q_64, aI g 16 z0), (q_65, aI g 60 z0), (q_56, .inr (9, [.int 0, .int 0, .int 0, .int 0, .int 0, .int 0, .int 0, .ref q_66, .ref q_67, .ref q_68, .ref q_69, .ref q_70, .ref q_71, .ref q_72])), (q_66, aI g 6 z0), (q_67, aI g 6 z0), (q_68, aI g 8 z0), (q_69, aI g 8 z0), (q_70, aI g 8 z0), (q_71, aI g 16 z0), (q_72, aI g 60 z0), (q_102, .inr (12, [.ref q_103, .ref q_104, .int 0, .int 0, .int 0, .int (-1), .int 0, .int 0, .int 0, .int 0, .long 0, .ref q_105, .ref q_106, .ref q_107, .ref q_108, .ref q_109, .ref q_110, .ref q_111, .ref q_112, .ref q_113, .ref q_114, .ref q_115, .ref q_116, .ref q_117, .ref q_118, .ref q_119, .ref q_120, .ref q_121, .ref q_122, .ref q_123, .ref q_124, .ref q_125, .ref q_126, .ref q_127, .ref q_128, .ref q_129, .ref q_130, .ref q_131, .ref q_132, .ref q_133, .ref q_134, .ref q_135, .ref q_136, .int 0, .int 0, .int 0, .int 0, .int 0, .int 0, .int 0, .int 0, .int 0, .ref q_137, .ref q_138, .int 0, .int 0, .ref q_139, .ref q_140, .ref q_141, .ref q_142, .ref q_143, .ref q_144, .ref q_145, .ref q_146, .ref q_147, .ref q_148, .int 0, .int 0, .int 0, .int 0, .int 0, .int 0, .int 0, .int 0, .int 0, .int 0, .int 0, .int 0, .ref q_149, .ref q_150, .ref q_151, .ref q_152, .ref q_153, .int 0, .int 0, .ref q_154, .ref q_155])), (q_105, aI g 2 z0), (q_137, aI g 374 z0), (q_138, aI g 15334 z0)] := hD.sub [0, 4, 5, 14, 15, 16, 17, 18, 19, 20, 21, 22, 23, 24, 25, 26, 27, 28, 29, 30, 58, 60, 69, 70] (by decide) rfl
        refine lv_aload_n hx hb dL_law_727 rfl (lv_at hl 2 rfl) ?_
        refine lv_aload_n hx hb dL_law_728 rfl (lv_at hl 3 rfl) ?_
        refine lv_iload_n hx hb dL_law_729 rfl (lv_at hl 0 rfl) ?_
        refine lv_iconst (v := 1) hx hb dL_law_730 (by decide) ?_
        refine lv_iadd hx hb dL_law_731 ?_
        refine p_ti (v := 1) (by decide +kernel) ?_
        refine va_sld hx hb hXs hbl hbA hS (i := 1) (by unfold vp_in; decide) dL_law_732 ?_
        refine p_ti (v := xs 1) rfl ?_
        refine k_i (wr := [(q_102, .inr (12, [.ref q_103, .ref q_104, .int 0, .int 0, .int 0, .int (-1), .int 0, .int 0, .int 0, .int 0, .long 0, .ref q_105, .ref q_106, .ref q_107, .ref q_108, .ref q_109, .ref q_110, .ref q_111, .ref q_112, .ref q_113, .ref q_114, .ref q_115, .ref q_116, .ref q_117, .ref q_118, .ref q_119, .ref q_120, .ref q_121, .ref q_122, .ref q_123, .ref q_124, .ref q_125, .ref q_126, .ref q_127, .ref q_128, .ref q_129, .ref q_130, .ref q_131, .ref q_132, .ref q_133, .ref q_134, .ref q_135, .ref q_136, .int 0, .int 0, .int 0, .int 0, .int 0, .int 0, .int 0, .int 0, .int 0, .ref q_137, .ref q_138, .int 0, .int 0, .ref q_139, .ref q_140, .ref q_141, .ref q_142, .ref q_143, .ref q_144, .ref q_145, .ref q_146, .ref q_147, .ref q_148, .int 0, .int 0, .int 0, .int 0, .int 0, .int 0, .int 0, .int 0, .int 0, .int 0, .int 0, .int 0, .ref q_149, .ref q_150, .ref q_151, .ref q_152, .ref q_153, .int 0, .int 0, .ref q_154, .ref q_155])), (q_105, aI g 2 z0), (q_137, aI g 374 z0), (q_138, aI g 15334 z0)]) (k_V (n := 1) ⟨hx, hb, hml, hown, hT⟩ hK hP hD [0, 1, 2, 3, 4, 5, 6, 7, 8, 9, 10, 11, 12, 13, 14, 15, 16, 17, 18, 19] rfl (by decide) (c_X11_days l g H.size q_1 q_2 q_3 q_4 q_5 q_6 q_7 q_8 q_9 q_10 q_11 q_14 q_15 q_16 q_17 q_18 q_19 q_20 q_21 q_22 q_23 q_56 q_57 q_59 q_60 q_61 q_62 q_63 q_64 q_65 q_66 q_67 q_68 q_69 q_70 q_71 q_72 f_58 (xs 1)) (gV bw_644 bw_645 bw_646 bw_207 bw_211) rfl rfl (by decide +kernel) ⟨by decide, by decide⟩ (ci := 11) (q0 := 0) rfl rfl (fun _ _ _ _ _ => trivial) (fun _ _ _ => trivial) rfl rfl hl.1 (Nat.le_of_ble_eq_true rfl) dL_law_733 ⟨by decide, by decide⟩) hP hD hS hA [0, 1, 2, 3, 4, 5, 6, 7, 8, 9, 10, 11, 12, 13, 14, 15, 16, 17, 18, 19] [20, 21, 22, 23] rfl rfl (by decide) (by decide) (fun r_192 u H locs hw hP hD hS => ?_)
        have hP : va_P g.1 vwCl [(q_102, .inr (12, [.ref q_103, .ref q_104, .int 0, .int 0, .int 0, .int (-1), .int 0, .int 0, .int 0, .int 0, .long 0, .ref q_105, .ref q_106, .ref q_107, .ref q_108, .ref q_109, .ref q_110, .ref q_111, .ref q_112, .ref q_113, .ref q_114, .ref q_115, .ref q_116, .ref q_117, .ref q_118, .ref q_119, .ref q_120, .ref q_121, .ref q_122, .ref q_123, .ref q_124, .ref q_125, .ref q_126, .ref q_127, .ref q_128, .ref q_129, .ref q_130, .ref q_131, .ref q_132, .ref q_133, .ref q_134, .ref q_135, .ref q_136, .int 0, .int 0, .int 0, .int 0, .int 0, .int 0, .int 0, .int 0, .int 0, .ref q_137, .ref q_138, .int 0, .int 0, .ref q_139, .ref q_140, .ref q_141, .ref q_142, .ref q_143, .ref q_144, .ref q_145, .ref q_146, .ref q_147, .ref q_148, .int 0, .int 0, .int 0, .int 0, .int 0, .int 0, .int 0, .int 0, .int 0, .int 0, .int 0, .int 0, .ref q_149, .ref q_150, .ref q_151, .ref q_152, .ref q_153, .int 0, .int 0, .ref q_154, .ref q_155])), (q_105, aI g 2 z0), (q_137, aI g 374 z0), (q_138, aI g 15334 z0)] H := hP
        have hD : va_D A [(q_102, .inr (12, [.ref q_103, .ref q_104, .int 0, .int 0, .int 0, .int (-1), .int 0, .int 0, .int 0, .int 0, .long 0, .ref q_105, .ref q_106, .ref q_107, .ref q_108, .ref q_109, .ref q_110, .ref q_111, .ref q_112, .ref q_113, .ref q_114, .ref q_115, .ref q_116, .ref q_117, .ref q_118, .ref q_119, .ref q_120, .ref q_121, .ref q_122, .ref q_123, .ref q_124, .ref q_125, .ref q_126, .ref q_127, .ref q_128, .ref q_129, .ref q_130, .ref q_131, .ref q_132, .ref q_133, .ref q_134, .ref q_135, .ref q_136, .int 0, .int 0, .int 0, .int 0, .int 0, .int 0, .int 0, .int 0, .int 0, .ref q_137, .ref q_138, .int 0, .int 0, .ref q_139, .ref q_140, .ref q_141, .ref q_142, .ref q_143, .ref q_144, .ref q_145, .ref q_146, .ref q_147, .ref q_148, .int 0, .int 0, .int 0, .int 0, .int 0, .int 0, .int 0, .int 0, .int 0, .int 0, .int 0, .int 0, .ref q_149, .ref q_150, .ref q_151, .ref q_152, .ref q_153, .int 0, .int 0, .ref q_154, .ref q_155])), (q_105, aI g 2 z0), (q_137, aI g 374 z0), (q_138, aI g 15334 z0)] := hD
        have hw : r_192 = (Fr 400 (xs 1)) := hw
        subst hw
        refine lv_aload_n hx hb dL_law_736 rfl (lv_at hl 1 rfl) ?_
        refine lv_aload_n hx hb dL_law_737 rfl (lv_at hl 3 rfl) ?_
        refine lv_iload_n hx hb dL_law_738 rfl (lv_at hl 0 rfl) ?_
        refine lv_iconst (v := 1) hx hb dL_law_739 (by decide) ?_
        refine lv_iadd hx hb dL_law_740 ?_
        refine p_ti (v := 1) (by decide +kernel) ?_
        refine va_sld hx hb hXs hbl hbA hS (i := 1) (by unfold vp_in; decide) dL_law_741 ?_
        refine p_ti (v := xs 1) rfl ?_
        refine k_i (wr := []) (k_V (n := 1) ⟨hx, hb, hml, hown, hT⟩ hK hP hD [0, 1, 2, 3] rfl (by decide) (c_X12_days l g H.size q_102 q_103 q_104 q_105 q_106 q_107 q_108 q_109 q_110 q_111 q_112 q_113 q_114 q_115 q_116 q_117 q_118 q_119 q_120 q_121 q_122 q_123 q_124 q_125 q_126 q_127 q_128 q_129 q_130 q_131 q_132 q_133 q_134 q_135 q_136 q_137 q_138 q_139 q_140 q_141 q_142 q_143 q_144 q_145 q_146 q_147 q_148 q_149 q_150 q_151 q_152 q_153 q_154 q_155 (xs 1)) (gV bw_647 bw_648 bw_649 bw_233 bw_335) rfl rfl (by decide +kernel) ⟨by decide, by decide⟩ (ci := 12) (q0 := 0) rfl rfl (fun _ _ _ _ _ => trivial) (fun _ _ _ => trivial) rfl rfl hl.1 (Nat.le_of_ble_eq_true rfl) dL_law_742 ⟨by decide, by decide⟩) hP hD hS hA [0, 1, 2, 3] [] rfl rfl (by decide) (by decide) (fun r_193 u H locs hw hP hD hS => ?_)
        have hP : va_P g.1 vwCl [] H := hP
        have hD : va_D A [] := hD
        have hw : r_193 = (Fr 400 (xs 1)) := hw
        subst hw
        refine lv_icmp_eq (tgt := 1217) hx hb dL_law_745 (by decide) (fun _ => ?_) (fun c9 => absurd (rfl) c9)
        refine lv_iinc (v := 6) (lv' := [(3, .int 6), (2, .ref q_102), (1, .ref q_1), (0, .ref b)]) hx hb dL_law_1217 hl (k := 0) rfl (by decide) (by decide) rfl (fun ls hl => ?_)
        refine lv_goto (tgt := 18) hx hb dL_law_1220 (by decide) ?_
        refine lv_iload_n hx hb dL_law_18 rfl (lv_at hl 0 rfl) ?_
        refine lv_aload_n hx hb dL_law_19 rfl (lv_at hl 3 rfl) ?_
        refine va_slen hx hb hXs hbl hbA hS dL_law_20 ?_
        refine p_ti (v := 6) rfl ?_
        refine lv_bipush (v := 6) hx hb dL_law_21 (by decide) ?_
        refine lv_isub hx hb dL_law_23 ?_
        refine p_ti (v := 0) (by decide +kernel) ?_
        refine lv_icmp_gt (tgt := 1223) hx hb dL_law_24 (by decide) (fun _ => ?_) (fun c9 => absurd (by decide) c9)
        refine lv_iconst (v := 1) hx hb dL_law_1223 (by decide) ?_
        refine va_forget (fun q hq => by have h9 := hS.2.2 q hq; rw [hAe] at h9; exact h9) ?_
        refine W.widen (k := 600000) (n := 7302249) (by decide) (by decide) ?_
        exact lw_ret hx hb hr hlocks dL_law_1224
      · obtain rfl : x_156 = 18 := eh_157
        refine lv_tableIn (tgt := 750) hx hb dL_law_33 (by decide) (by decide) (off := 717) (by decide) (by decide) ?_
        have hP : va_P g.1 vwCl [(q_1, .inr (11, [.ref q_2, .int 0, .ref q_3, .ref q_4, .ref q_5, .ref q_6, .int 0, .int 0, .ref q_7, .int 0, .ref q_8, .ref q_9, .ref q_10, .ref q_11])), (q_102, .inr (12, [.ref q_103, .ref q_104, .int 0, .int 0, .int 0, .int (-1), .int 0, .int 0, .int 0, .int 0, .long 0, .ref q_105, .ref q_106, .ref q_107, .ref q_108, .ref q_109, .ref q_110, .ref q_111, .ref q_112, .ref q_113, .ref q_114, .ref q_115, .ref q_116, .ref q_117, .ref q_118, .ref q_119, .ref q_120, .ref q_121, .ref q_122, .ref q_123, .ref q_124, .ref q_125, .ref q_126, .ref q_127, .ref q_128, .ref q_129, .ref q_130, .ref q_131, .ref q_132, .ref q_133, .ref q_134, .ref q_135, .ref q_136, .int 0, .int 0, .int 0, .int 0, .int 0, .int 0, .int 0, .int 0, .int 0, .ref q_137, .ref q_138, .int 0, .int 0, .ref q_139, .ref q_140, .ref q_141, .ref q_142, .ref q_143, .ref q_144, .ref q_145, .ref q_146, .ref q_147, .ref q_148, .int 0, .int 0, .int 0, .int 0, .int 0, .int 0, .int 0, .int 0, .int 0, .int 0, .int 0, .int 0, .ref q_149, .ref q_150, .ref q_151, .ref q_152, .ref q_153, .int 0, .int 0, .ref q_154, .ref q_155]))] H := hP.sub [0, 58] rfl
        have hD : va_D A [(q_1, .inr (11, [.ref q_2, .int 0, .ref q_3, .ref q_4, .ref q_5, .ref q_6, .int 0, .int 0, .ref q_7, .int 0, .ref q_8, .ref q_9, .ref q_10, .ref q_11])), (q_102, .inr (12, [.ref q_103, .ref q_104, .int 0, .int 0, .int 0, .int (-1), .int 0, .int 0, .int 0, .int 0, .long 0, .ref q_105, .ref q_106, .ref q_107, .ref q_108, .ref q_109, .ref q_110, .ref q_111, .ref q_112, .ref q_113, .ref q_114, .ref q_115, .ref q_116, .ref q_117, .ref q_118, .ref q_119, .ref q_120, .ref q_121, .ref q_122, .ref q_123, .ref q_124, .ref q_125, .ref q_126, .ref q_127, .ref q_128, .ref q_129, .ref q_130, .ref q_131, .ref q_132, .ref q_133, .ref q_134, .ref q_135, .ref q_136, .int 0, .int 0, .int 0, .int 0, .int 0, .int 0, .int 0, .int 0, .int 0, .ref q_137, .ref q_138, .int 0, .int 0, .ref q_139, .ref q_140, .ref q_141, .ref q_142, .ref q_143, .ref q_144, .ref q_145, .ref q_146, .ref q_147, .ref q_148, .int 0, .int 0, .int 0, .int 0, .int 0, .int 0, .int 0, .int 0, .int 0, .int 0, .int 0, .int 0, .ref q_149, .ref q_150, .ref q_151, .ref q_152, .ref q_153, .int 0, .int 0, .ref q_154, .ref q_155]))] := hD.sub [0, 58] (by decide) rfl
        refine lv_aload_n hx hb dL_law_750 rfl (lv_at hl 2 rfl) ?_
        refine k_iR (k_V (n := 0) ⟨hx, hb, hml, hown, hT⟩ hK hP hD [0] rfl (by decide) (c_X11_undo l g H.size q_1 q_2 q_3 q_4 q_5 q_6 q_7 q_8 q_9 q_10 q_11) (gV bw_650 bw_651 bw_652 bw_207 bw_46) rfl rfl (by decide +kernel) ⟨by decide, by decide⟩ (ci := 11) (q0 := 0) rfl rfl (fun _ _ _ _ _ => trivial) (fun _ _ _ => trivial) rfl rfl hl.1 (Nat.le_of_ble_eq_true rfl) dL_law_751 ⟨by decide, by decide⟩) hP hS hA (fun r_194 _ H locs hw hP hS => ?_)
        have hw : r_194 = 0 := hw
        subst hw
        refine lv_aload_n hx hb dL_law_754 rfl (lv_at hl 1 rfl) ?_
        refine k_iR (k_V (n := 0) ⟨hx, hb, hml, hown, hT⟩ hK hP hD [1] rfl (by decide) (c_X12_undo l g H.size q_102 q_103 q_104 q_105 q_106 q_107 q_108 q_109 q_110 q_111 q_112 q_113 q_114 q_115 q_116 q_117 q_118 q_119 q_120 q_121 q_122 q_123 q_124 q_125 q_126 q_127 q_128 q_129 q_130 q_131 q_132 q_133 q_134 q_135 q_136 q_137 q_138 q_139 q_140 q_141 q_142 q_143 q_144 q_145 q_146 q_147 q_148 q_149 q_150 q_151 q_152 q_153 q_154 q_155) (gV bw_653 bw_654 bw_655 bw_233 bw_259) rfl rfl (by decide +kernel) ⟨by decide, by decide⟩ (ci := 12) (q0 := 0) rfl rfl (fun _ _ _ _ _ => trivial) (fun _ _ _ => trivial) rfl rfl hl.1 (Nat.le_of_ble_eq_true rfl) dL_law_755 ⟨by decide, by decide⟩) hP hS hA (fun r_195 _ H locs hw hP hS => ?_)
        have hw : r_195 = 0 := hw
        subst hw
        refine lv_icmp_eq (tgt := 1217) hx hb dL_law_758 (by decide) (fun _ => ?_) (fun c9 => absurd (by decide) c9)
        refine lv_iinc (v := 6) (lv' := [(3, .int 6), (2, .ref q_102), (1, .ref q_1), (0, .ref b)]) hx hb dL_law_1217 hl (k := 0) rfl (by decide) (by decide) rfl (fun ls hl => ?_)
        refine lv_goto (tgt := 18) hx hb dL_law_1220 (by decide) ?_
        refine lv_iload_n hx hb dL_law_18 rfl (lv_at hl 0 rfl) ?_
        refine lv_aload_n hx hb dL_law_19 rfl (lv_at hl 3 rfl) ?_
        refine va_slen hx hb hXs hbl hbA hS dL_law_20 ?_
        refine p_ti (v := 6) rfl ?_
        refine lv_bipush (v := 6) hx hb dL_law_21 (by decide) ?_
        refine lv_isub hx hb dL_law_23 ?_
        refine p_ti (v := 0) (by decide +kernel) ?_
        refine lv_icmp_gt (tgt := 1223) hx hb dL_law_24 (by decide) (fun _ => ?_) (fun c9 => absurd (by decide) c9)
        refine lv_iconst (v := 1) hx hb dL_law_1223 (by decide) ?_
        refine va_forget (fun q hq => by have h9 := hS.2.2 q hq; rw [hAe] at h9; exact h9) ?_
        refine W.widen (k := 600000) (n := 7302249) (by decide) (by decide) ?_
        exact lw_ret hx hb hr hlocks dL_law_1224
      · obtain rfl : x_156 = 19 := eh_157
        refine lv_tableIn (tgt := 763) hx hb dL_law_33 (by decide) (by decide) (off := 730) (by decide) (by decide) ?_
        have hP : va_P g.1 vwCl [(q_1, .inr (11, [.ref q_2, .int 0, .ref q_3, .ref q_4, .ref q_5, .ref q_6, .int 0, .int 0, .ref q_7, .int 0, .ref q_8, .ref q_9, .ref q_10, .ref q_11])), (q_102, .inr (12, [.ref q_103, .ref q_104, .int 0, .int 0, .int 0, .int (-1), .int 0, .int 0, .int 0, .int 0, .long 0, .ref q_105, .ref q_106, .ref q_107, .ref q_108, .ref q_109, .ref q_110, .ref q_111, .ref q_112, .ref q_113, .ref q_114, .ref q_115, .ref q_116, .ref q_117, .ref q_118, .ref q_119, .ref q_120, .ref q_121, .ref q_122, .ref q_123, .ref q_124, .ref q_125, .ref q_126, .ref q_127, .ref q_128, .ref q_129, .ref q_130, .ref q_131, .ref q_132, .ref q_133, .ref q_134, .ref q_135, .ref q_136, .int 0, .int 0, .int 0, .int 0, .int 0, .int 0, .int 0, .int 0, .int 0, .ref q_137, .ref q_138, .int 0, .int 0, .ref q_139, .ref q_140, .ref q_141, .ref q_142, .ref q_143, .ref q_144, .ref q_145, .ref q_146, .ref q_147, .ref q_148, .int 0, .int 0, .int 0, .int 0, .int 0, .int 0, .int 0, .int 0, .int 0, .int 0, .int 0, .int 0, .ref q_149, .ref q_150, .ref q_151, .ref q_152, .ref q_153, .int 0, .int 0, .ref q_154, .ref q_155]))] H := hP.sub [0, 58] rfl
        have hD : va_D A [(q_1, .inr (11, [.ref q_2, .int 0, .ref q_3, .ref q_4, .ref q_5, .ref q_6, .int 0, .int 0, .ref q_7, .int 0, .ref q_8, .ref q_9, .ref q_10, .ref q_11])), (q_102, .inr (12, [.ref q_103, .ref q_104, .int 0, .int 0, .int 0, .int (-1), .int 0, .int 0, .int 0, .int 0, .long 0, .ref q_105, .ref q_106, .ref q_107, .ref q_108, .ref q_109, .ref q_110, .ref q_111, .ref q_112, .ref q_113, .ref q_114, .ref q_115, .ref q_116, .ref q_117, .ref q_118, .ref q_119, .ref q_120, .ref q_121, .ref q_122, .ref q_123, .ref q_124, .ref q_125, .ref q_126, .ref q_127, .ref q_128, .ref q_129, .ref q_130, .ref q_131, .ref q_132, .ref q_133, .ref q_134, .ref q_135, .ref q_136, .int 0, .int 0, .int 0, .int 0, .int 0, .int 0, .int 0, .int 0, .int 0, .ref q_137, .ref q_138, .int 0, .int 0, .ref q_139, .ref q_140, .ref q_141, .ref q_142, .ref q_143, .ref q_144, .ref q_145, .ref q_146, .ref q_147, .ref q_148, .int 0, .int 0, .int 0, .int 0, .int 0, .int 0, .int 0, .int 0, .int 0, .int 0, .int 0, .int 0, .ref q_149, .ref q_150, .ref q_151, .ref q_152, .ref q_153, .int 0, .int 0, .ref q_154, .ref q_155]))] := hD.sub [0, 58] (by decide) rfl
        refine lv_aload_n hx hb dL_law_763 rfl (lv_at hl 2 rfl) ?_
        refine k_iR (k_V (n := 0) ⟨hx, hb, hml, hown, hT⟩ hK hP hD [0] rfl (by decide) (c_X11_redo l g H.size q_1 q_2 q_3 q_4 q_5 q_6 q_7 q_8 q_9 q_10 q_11) (gV bw_656 bw_657 bw_658 bw_207 bw_48) rfl rfl (by decide +kernel) ⟨by decide, by decide⟩ (ci := 11) (q0 := 0) rfl rfl (fun _ _ _ _ _ => trivial) (fun _ _ _ => trivial) rfl rfl hl.1 (Nat.le_of_ble_eq_true rfl) dL_law_764 ⟨by decide, by decide⟩) hP hS hA (fun r_196 _ H locs hw hP hS => ?_)
        have hw : r_196 = 0 := hw
        subst hw
        refine lv_aload_n hx hb dL_law_767 rfl (lv_at hl 1 rfl) ?_
        refine k_iR (k_V (n := 0) ⟨hx, hb, hml, hown, hT⟩ hK hP hD [1] rfl (by decide) (c_X12_redo l g H.size q_102 q_103 q_104 q_105 q_106 q_107 q_108 q_109 q_110 q_111 q_112 q_113 q_114 q_115 q_116 q_117 q_118 q_119 q_120 q_121 q_122 q_123 q_124 q_125 q_126 q_127 q_128 q_129 q_130 q_131 q_132 q_133 q_134 q_135 q_136 q_137 q_138 q_139 q_140 q_141 q_142 q_143 q_144 q_145 q_146 q_147 q_148 q_149 q_150 q_151 q_152 q_153 q_154 q_155) (gV bw_659 bw_660 bw_661 bw_233 bw_261) rfl rfl (by decide +kernel) ⟨by decide, by decide⟩ (ci := 12) (q0 := 0) rfl rfl (fun _ _ _ _ _ => trivial) (fun _ _ _ => trivial) rfl rfl hl.1 (Nat.le_of_ble_eq_true rfl) dL_law_768 ⟨by decide, by decide⟩) hP hS hA (fun r_197 _ H locs hw hP hS => ?_)
        have hw : r_197 = 0 := hw
        subst hw
        refine lv_icmp_eq (tgt := 1217) hx hb dL_law_771 (by decide) (fun _ => ?_) (fun c9 => absurd (by decide) c9)
        refine lv_iinc (v := 6) (lv' := [(3, .int 6), (2, .ref q_102), (1, .ref q_1), (0, .ref b)]) hx hb dL_law_1217 hl (k := 0) rfl (by decide) (by decide) rfl (fun ls hl => ?_)
        refine lv_goto (tgt := 18) hx hb dL_law_1220 (by decide) ?_
        refine lv_iload_n hx hb dL_law_18 rfl (lv_at hl 0 rfl) ?_
        refine lv_aload_n hx hb dL_law_19 rfl (lv_at hl 3 rfl) ?_
        refine va_slen hx hb hXs hbl hbA hS dL_law_20 ?_
        refine p_ti (v := 6) rfl ?_
        refine lv_bipush (v := 6) hx hb dL_law_21 (by decide) ?_
        refine lv_isub hx hb dL_law_23 ?_
        refine p_ti (v := 0) (by decide +kernel) ?_
        refine lv_icmp_gt (tgt := 1223) hx hb dL_law_24 (by decide) (fun _ => ?_) (fun c9 => absurd (by decide) c9)
        refine lv_iconst (v := 1) hx hb dL_law_1223 (by decide) ?_
        refine va_forget (fun q hq => by have h9 := hS.2.2 q hq; rw [hAe] at h9; exact h9) ?_
        refine W.widen (k := 600000) (n := 7302249) (by decide) (by decide) ?_
        exact lw_ret hx hb hr hlocks dL_law_1224
      · obtain rfl : x_156 = 20 := eh_157
        refine lv_tableIn (tgt := 776) hx hb dL_law_33 (by decide) (by decide) (off := 743) (by decide) (by decide) ?_
        have hP : va_P g.1 vwCl [(q_1, .inr (11, [.ref q_2, .int 0, .ref q_3, .ref q_4, .ref q_5, .ref q_6, .int 0, .int 0, .ref q_7, .int 0, .ref q_8, .ref q_9, .ref q_10, .ref q_11])), (q_6, aO g 41 (va_up (va_up f_58 0 (some q_57)) 1 (some q_56))), (q_57, .inr (9, [.int 0, .int 0, .int 0, .int 0, .int 0, .int 0, .int 0, .ref q_59, .ref q_60, .ref q_61, .ref q_62, .ref q_63, .ref q_64, .ref q_65])), (q_11, .inr (1, [.int 0, .ref q_101])), (q_102, .inr (12, [.ref q_103, .ref q_104, .int 0, .int 0, .int 0, .int (-1), .int 0, .int 0, .int 0, .int 0, .long 0, .ref q_105, .ref q_106, .ref q_107, .ref q_108, .ref q_109, .ref q_110, .ref q_111, .ref q_112, .ref q_113, .ref q_114, .ref q_115, .ref q_116, .ref q_117, .ref q_118, .ref q_119, .ref q_120, .ref q_121, .ref q_122, .ref q_123, .ref q_124, .ref q_125, .ref q_126, .ref q_127, .ref q_128, .ref q_129, .ref q_130, .ref q_131, .ref q_132, .ref q_133, .ref q_134, .ref q_135, .ref q_136, .int 0, .int 0, .int 0, .int 0, .int 0, .int 0, .int 0, .int 0, .int 0, .ref q_137, .ref q_138, .int 0, .int 0, .ref q_139, .ref q_140, .ref q_141, .ref q_142, .ref q_143, .ref q_144, .ref q_145, .ref q_146, .ref q_147, .ref q_148, .int 0, .int 0, .int 0, .int 0, .int 0, .int 0, .int 0, .int 0, .int 0, .int 0, .int 0, .int 0, .ref q_149, .ref q_150, .ref q_151, .ref q_152, .ref q_153, .int 0, .int 0, .ref q_154, .ref q_155])), (q_137, aI g 374 z0)] H := hP.sub [0, 14, 15, 57, 58, 69] rfl
        have hD : va_D A [(q_1, .inr (11, [.ref q_2, .int 0, .ref q_3, .ref q_4, .ref q_5, .ref q_6, .int 0, .int 0, .ref q_7, .int 0, .ref q_8, .ref q_9, .ref q_10, .ref q_11])), (q_6, aO g 41 (va_up (va_up f_58 0 (some q_57)) 1 (some q_56))), (q_57, .inr (9, [.int 0, .int 0, .int 0, .int 0, .int 0, .int 0, .int 0, .ref q_59, .ref q_60, .ref q_61, .ref q_62, .ref q_63, .ref q_64, .ref q_65])), (q_11, .inr (1, [.int 0, .ref q_101])), (q_102, .inr (12, [.ref q_103, .ref q_104, .int 0, .int 0, .int 0, .int (-1), .int 0, .int 0, .int 0, .int 0, .long 0, .ref q_105, .ref q_106, .ref q_107, .ref q_108, .ref q_109, .ref q_110, .ref q_111, .ref q_112, .ref q_113, .ref q_114, .ref q_115, .ref q_116, .ref q_117, .ref q_118, .ref q_119, .ref q_120, .ref q_121, .ref q_122, .ref q_123, .ref q_124, .ref q_125, .ref q_126, .ref q_127, .ref q_128, .ref q_129, .ref q_130, .ref q_131, .ref q_132, .ref q_133, .ref q_134, .ref q_135, .ref q_136, .int 0, .int 0, .int 0, .int 0, .int 0, .int 0, .int 0, .int 0, .int 0, .ref q_137, .ref q_138, .int 0, .int 0, .ref q_139, .ref q_140, .ref q_141, .ref q_142, .ref q_143, .ref q_144, .ref q_145, .ref q_146, .ref q_147, .ref q_148, .int 0, .int 0, .int 0, .int 0, .int 0, .int 0, .int 0, .int 0, .int 0, .int 0, .int 0, .int 0, .ref q_149, .ref q_150, .ref q_151, .ref q_152, .ref q_153, .int 0, .int 0, .ref q_154, .ref q_155])), (q_137, aI g 374 z0)] := hD.sub [0, 14, 15, 57, 58, 69] (by decide) rfl
        refine lv_aload_n hx hb dL_law_776 rfl (lv_at hl 2 rfl) ?_
        refine lv_aload_n hx hb dL_law_777 rfl (lv_at hl 3 rfl) ?_
        refine lv_iload_n hx hb dL_law_778 rfl (lv_at hl 0 rfl) ?_
        refine lv_iconst (v := 1) hx hb dL_law_779 (by decide) ?_
        refine lv_iadd hx hb dL_law_780 ?_
        refine p_ti (v := 1) (by decide +kernel) ?_
        refine va_sld hx hb hXs hbl hbA hS (i := 1) (by unfold vp_in; decide) dL_law_781 ?_
        refine p_ti (v := xs 1) rfl ?_
        refine k_i (wr := [(q_102, .inr (12, [.ref q_103, .ref q_104, .int 0, .int 0, .int 0, .int (-1), .int 0, .int 0, .int 0, .int 0, .long 0, .ref q_105, .ref q_106, .ref q_107, .ref q_108, .ref q_109, .ref q_110, .ref q_111, .ref q_112, .ref q_113, .ref q_114, .ref q_115, .ref q_116, .ref q_117, .ref q_118, .ref q_119, .ref q_120, .ref q_121, .ref q_122, .ref q_123, .ref q_124, .ref q_125, .ref q_126, .ref q_127, .ref q_128, .ref q_129, .ref q_130, .ref q_131, .ref q_132, .ref q_133, .ref q_134, .ref q_135, .ref q_136, .int 0, .int 0, .int 0, .int 0, .int 0, .int 0, .int 0, .int 0, .int 0, .ref q_137, .ref q_138, .int 0, .int 0, .ref q_139, .ref q_140, .ref q_141, .ref q_142, .ref q_143, .ref q_144, .ref q_145, .ref q_146, .ref q_147, .ref q_148, .int 0, .int 0, .int 0, .int 0, .int 0, .int 0, .int 0, .int 0, .int 0, .int 0, .int 0, .int 0, .ref q_149, .ref q_150, .ref q_151, .ref q_152, .ref q_153, .int 0, .int 0, .ref q_154, .ref q_155])), (q_137, aI g 374 z0)]) (k_V (n := 1) ⟨hx, hb, hml, hown, hT⟩ hK hP hD [0, 1, 2, 3] rfl (by decide) (c_X11_life l g H.size q_1 q_2 q_3 q_4 q_5 q_6 q_7 q_8 q_9 q_10 q_11 q_56 q_57 q_59 q_60 q_61 q_62 q_63 q_64 q_65 q_101 f_58 (xs 1)) (gV bw_662 bw_663 bw_664 bw_207 bw_75) rfl rfl (by decide +kernel) ⟨by decide, by decide⟩ (ci := 11) (q0 := 0) rfl rfl (fun _ _ _ _ _ => trivial) (fun _ _ _ => trivial) rfl rfl hl.1 (Nat.le_of_ble_eq_true rfl) dL_law_782 ⟨by decide, by decide⟩) hP hD hS hA [0, 1, 2, 3] [4, 5] rfl rfl (by decide) (by decide) (fun r_198 u H locs hw hP hD hS => ?_)
        have hP : va_P g.1 vwCl [(q_102, .inr (12, [.ref q_103, .ref q_104, .int 0, .int 0, .int 0, .int (-1), .int 0, .int 0, .int 0, .int 0, .long 0, .ref q_105, .ref q_106, .ref q_107, .ref q_108, .ref q_109, .ref q_110, .ref q_111, .ref q_112, .ref q_113, .ref q_114, .ref q_115, .ref q_116, .ref q_117, .ref q_118, .ref q_119, .ref q_120, .ref q_121, .ref q_122, .ref q_123, .ref q_124, .ref q_125, .ref q_126, .ref q_127, .ref q_128, .ref q_129, .ref q_130, .ref q_131, .ref q_132, .ref q_133, .ref q_134, .ref q_135, .ref q_136, .int 0, .int 0, .int 0, .int 0, .int 0, .int 0, .int 0, .int 0, .int 0, .ref q_137, .ref q_138, .int 0, .int 0, .ref q_139, .ref q_140, .ref q_141, .ref q_142, .ref q_143, .ref q_144, .ref q_145, .ref q_146, .ref q_147, .ref q_148, .int 0, .int 0, .int 0, .int 0, .int 0, .int 0, .int 0, .int 0, .int 0, .int 0, .int 0, .int 0, .ref q_149, .ref q_150, .ref q_151, .ref q_152, .ref q_153, .int 0, .int 0, .ref q_154, .ref q_155])), (q_137, aI g 374 z0)] H := hP
        have hD : va_D A [(q_102, .inr (12, [.ref q_103, .ref q_104, .int 0, .int 0, .int 0, .int (-1), .int 0, .int 0, .int 0, .int 0, .long 0, .ref q_105, .ref q_106, .ref q_107, .ref q_108, .ref q_109, .ref q_110, .ref q_111, .ref q_112, .ref q_113, .ref q_114, .ref q_115, .ref q_116, .ref q_117, .ref q_118, .ref q_119, .ref q_120, .ref q_121, .ref q_122, .ref q_123, .ref q_124, .ref q_125, .ref q_126, .ref q_127, .ref q_128, .ref q_129, .ref q_130, .ref q_131, .ref q_132, .ref q_133, .ref q_134, .ref q_135, .ref q_136, .int 0, .int 0, .int 0, .int 0, .int 0, .int 0, .int 0, .int 0, .int 0, .ref q_137, .ref q_138, .int 0, .int 0, .ref q_139, .ref q_140, .ref q_141, .ref q_142, .ref q_143, .ref q_144, .ref q_145, .ref q_146, .ref q_147, .ref q_148, .int 0, .int 0, .int 0, .int 0, .int 0, .int 0, .int 0, .int 0, .int 0, .int 0, .int 0, .int 0, .ref q_149, .ref q_150, .ref q_151, .ref q_152, .ref q_153, .int 0, .int 0, .ref q_154, .ref q_155])), (q_137, aI g 374 z0)] := hD
        have hw : r_198 = (-1) := hw
        subst hw
        refine lv_aload_n hx hb dL_law_785 rfl (lv_at hl 1 rfl) ?_
        refine lv_aload_n hx hb dL_law_786 rfl (lv_at hl 3 rfl) ?_
        refine lv_iload_n hx hb dL_law_787 rfl (lv_at hl 0 rfl) ?_
        refine lv_iconst (v := 1) hx hb dL_law_788 (by decide) ?_
        refine lv_iadd hx hb dL_law_789 ?_
        refine p_ti (v := 1) (by decide +kernel) ?_
        refine va_sld hx hb hXs hbl hbA hS (i := 1) (by unfold vp_in; decide) dL_law_790 ?_
        refine p_ti (v := xs 1) rfl ?_
        refine k_i (wr := []) (k_V (n := 1) ⟨hx, hb, hml, hown, hT⟩ hK hP hD [0, 1] rfl (by decide) (c_X12_life l g H.size q_102 q_103 q_104 q_105 q_106 q_107 q_108 q_109 q_110 q_111 q_112 q_113 q_114 q_115 q_116 q_117 q_118 q_119 q_120 q_121 q_122 q_123 q_124 q_125 q_126 q_127 q_128 q_129 q_130 q_131 q_132 q_133 q_134 q_135 q_136 q_137 q_138 q_139 q_140 q_141 q_142 q_143 q_144 q_145 q_146 q_147 q_148 q_149 q_150 q_151 q_152 q_153 q_154 q_155 (xs 1)) (gV bw_665 bw_666 bw_667 bw_233 bw_278) rfl rfl (by decide +kernel) ⟨by decide, by decide⟩ (ci := 12) (q0 := 0) rfl rfl (fun _ _ _ _ _ => trivial) (fun _ _ _ => trivial) rfl rfl hl.1 (Nat.le_of_ble_eq_true rfl) dL_law_791 ⟨by decide, by decide⟩) hP hD hS hA [0, 1] [] rfl rfl (by decide) (by decide) (fun r_199 u H locs hw hP hD hS => ?_)
        have hP : va_P g.1 vwCl [] H := hP
        have hD : va_D A [] := hD
        have hw : r_199 = (-1) := hw
        subst hw
        refine lv_icmp_eq (tgt := 1217) hx hb dL_law_794 (by decide) (fun _ => ?_) (fun c9 => absurd (by decide) c9)
        refine lv_iinc (v := 6) (lv' := [(3, .int 6), (2, .ref q_102), (1, .ref q_1), (0, .ref b)]) hx hb dL_law_1217 hl (k := 0) rfl (by decide) (by decide) rfl (fun ls hl => ?_)
        refine lv_goto (tgt := 18) hx hb dL_law_1220 (by decide) ?_
        refine lv_iload_n hx hb dL_law_18 rfl (lv_at hl 0 rfl) ?_
        refine lv_aload_n hx hb dL_law_19 rfl (lv_at hl 3 rfl) ?_
        refine va_slen hx hb hXs hbl hbA hS dL_law_20 ?_
        refine p_ti (v := 6) rfl ?_
        refine lv_bipush (v := 6) hx hb dL_law_21 (by decide) ?_
        refine lv_isub hx hb dL_law_23 ?_
        refine p_ti (v := 0) (by decide +kernel) ?_
        refine lv_icmp_gt (tgt := 1223) hx hb dL_law_24 (by decide) (fun _ => ?_) (fun c9 => absurd (by decide) c9)
        refine lv_iconst (v := 1) hx hb dL_law_1223 (by decide) ?_
        refine va_forget (fun q hq => by have h9 := hS.2.2 q hq; rw [hAe] at h9; exact h9) ?_
        refine W.widen (k := 600000) (n := 7302249) (by decide) (by decide) ?_
        exact lw_ret hx hb hr hlocks dL_law_1224
      · obtain rfl : x_156 = 21 := eh_157
        refine lv_tableIn (tgt := 799) hx hb dL_law_33 (by decide) (by decide) (off := 766) (by decide) (by decide) ?_
        have hP : va_P g.1 vwCl [(q_1, .inr (11, [.ref q_2, .int 0, .ref q_3, .ref q_4, .ref q_5, .ref q_6, .int 0, .int 0, .ref q_7, .int 0, .ref q_8, .ref q_9, .ref q_10, .ref q_11])), (q_6, aO g 41 (va_up (va_up f_58 0 (some q_57)) 1 (some q_56))), (q_57, .inr (9, [.int 0, .int 0, .int 0, .int 0, .int 0, .int 0, .int 0, .ref q_59, .ref q_60, .ref q_61, .ref q_62, .ref q_63, .ref q_64, .ref q_65])), (q_102, .inr (12, [.ref q_103, .ref q_104, .int 0, .int 0, .int 0, .int (-1), .int 0, .int 0, .int 0, .int 0, .long 0, .ref q_105, .ref q_106, .ref q_107, .ref q_108, .ref q_109, .ref q_110, .ref q_111, .ref q_112, .ref q_113, .ref q_114, .ref q_115, .ref q_116, .ref q_117, .ref q_118, .ref q_119, .ref q_120, .ref q_121, .ref q_122, .ref q_123, .ref q_124, .ref q_125, .ref q_126, .ref q_127, .ref q_128, .ref q_129, .ref q_130, .ref q_131, .ref q_132, .ref q_133, .ref q_134, .ref q_135, .ref q_136, .int 0, .int 0, .int 0, .int 0, .int 0, .int 0, .int 0, .int 0, .int 0, .ref q_137, .ref q_138, .int 0, .int 0, .ref q_139, .ref q_140, .ref q_141, .ref q_142, .ref q_143, .ref q_144, .ref q_145, .ref q_146, .ref q_147, .ref q_148, .int 0, .int 0, .int 0, .int 0, .int 0, .int 0, .int 0, .int 0, .int 0, .int 0, .int 0, .int 0, .ref q_149, .ref q_150, .ref q_151, .ref q_152, .ref q_153, .int 0, .int 0, .ref q_154, .ref q_155])), (q_137, aI g 374 z0)] H := hP.sub [0, 14, 15, 58, 69] rfl
        have hD : va_D A [(q_1, .inr (11, [.ref q_2, .int 0, .ref q_3, .ref q_4, .ref q_5, .ref q_6, .int 0, .int 0, .ref q_7, .int 0, .ref q_8, .ref q_9, .ref q_10, .ref q_11])), (q_6, aO g 41 (va_up (va_up f_58 0 (some q_57)) 1 (some q_56))), (q_57, .inr (9, [.int 0, .int 0, .int 0, .int 0, .int 0, .int 0, .int 0, .ref q_59, .ref q_60, .ref q_61, .ref q_62, .ref q_63, .ref q_64, .ref q_65])), (q_102, .inr (12, [.ref q_103, .ref q_104, .int 0, .int 0, .int 0, .int (-1), .int 0, .int 0, .int 0, .int 0, .long 0, .ref q_105, .ref q_106, .ref q_107, .ref q_108, .ref q_109, .ref q_110, .ref q_111, .ref q_112, .ref q_113, .ref q_114, .ref q_115, .ref q_116, .ref q_117, .ref q_118, .ref q_119, .ref q_120, .ref q_121, .ref q_122, .ref q_123, .ref q_124, .ref q_125, .ref q_126, .ref q_127, .ref q_128, .ref q_129, .ref q_130, .ref q_131, .ref q_132, .ref q_133, .ref q_134, .ref q_135, .ref q_136, .int 0, .int 0, .int 0, .int 0, .int 0, .int 0, .int 0, .int 0, .int 0, .ref q_137, .ref q_138, .int 0, .int 0, .ref q_139, .ref q_140, .ref q_141, .ref q_142, .ref q_143, .ref q_144, .ref q_145, .ref q_146, .ref q_147, .ref q_148, .int 0, .int 0, .int 0, .int 0, .int 0, .int 0, .int 0, .int 0, .int 0, .int 0, .int 0, .int 0, .ref q_149, .ref q_150, .ref q_151, .ref q_152, .ref q_153, .int 0, .int 0, .ref q_154, .ref q_155])), (q_137, aI g 374 z0)] := hD.sub [0, 14, 15, 58, 69] (by decide) rfl
        refine lv_aload_n hx hb dL_law_799 rfl (lv_at hl 2 rfl) ?_
        refine lv_aload_n hx hb dL_law_800 rfl (lv_at hl 3 rfl) ?_
        refine lv_iload_n hx hb dL_law_801 rfl (lv_at hl 0 rfl) ?_
        refine lv_iconst (v := 1) hx hb dL_law_802 (by decide) ?_
        refine lv_iadd hx hb dL_law_803 ?_
        refine p_ti (v := 1) (by decide +kernel) ?_
        refine va_sld hx hb hXs hbl hbA hS (i := 1) (by unfold vp_in; decide) dL_law_804 ?_
        refine p_ti (v := xs 1) rfl ?_
        refine lv_aload_n hx hb dL_law_805 rfl (lv_at hl 3 rfl) ?_
        refine lv_iload_n hx hb dL_law_806 rfl (lv_at hl 0 rfl) ?_
        refine lv_iconst (v := 2) hx hb dL_law_807 (by decide) ?_
        refine lv_iadd hx hb dL_law_808 ?_
        refine p_ti (v := 2) (by decide +kernel) ?_
        refine va_sld hx hb hXs hbl hbA hS (i := 2) (by unfold vp_in; decide) dL_law_809 ?_
        refine p_ti (v := xs 2) rfl ?_
        refine k_iR (k_V (n := 2) ⟨hx, hb, hml, hown, hT⟩ hK hP hD [0, 1, 2] rfl (by decide) (c_X11_late l g H.size q_1 q_2 q_3 q_4 q_5 q_6 q_7 q_8 q_9 q_10 q_11 q_56 q_57 q_59 q_60 q_61 q_62 q_63 q_64 q_65 f_58 (xs 1) (xs 2)) (gV bw_668 bw_669 bw_670 bw_207 bw_49) rfl rfl (by decide +kernel) ⟨by decide, by decide⟩ (ci := 11) (q0 := 0) rfl rfl (fun _ _ _ _ _ => trivial) (fun _ _ _ => trivial) rfl rfl hl.1 (Nat.le_of_ble_eq_true rfl) dL_law_810 ⟨by decide, by decide⟩) hP hS hA (fun r_200 _ H locs hw hP hS => ?_)
        have hw : r_200 = (-1) := hw
        subst hw
        refine lv_aload_n hx hb dL_law_813 rfl (lv_at hl 1 rfl) ?_
        refine lv_aload_n hx hb dL_law_814 rfl (lv_at hl 3 rfl) ?_
        refine lv_iload_n hx hb dL_law_815 rfl (lv_at hl 0 rfl) ?_
        refine lv_iconst (v := 1) hx hb dL_law_816 (by decide) ?_
        refine lv_iadd hx hb dL_law_817 ?_
        refine p_ti (v := 1) (by decide +kernel) ?_
        refine va_sld hx hb hXs hbl hbA hS (i := 1) (by unfold vp_in; decide) dL_law_818 ?_
        refine p_ti (v := xs 1) rfl ?_
        refine lv_aload_n hx hb dL_law_819 rfl (lv_at hl 3 rfl) ?_
        refine lv_iload_n hx hb dL_law_820 rfl (lv_at hl 0 rfl) ?_
        refine lv_iconst (v := 2) hx hb dL_law_821 (by decide) ?_
        refine lv_iadd hx hb dL_law_822 ?_
        refine p_ti (v := 2) (by decide +kernel) ?_
        refine va_sld hx hb hXs hbl hbA hS (i := 2) (by unfold vp_in; decide) dL_law_823 ?_
        refine p_ti (v := xs 2) rfl ?_
        refine k_iR (k_V (n := 2) ⟨hx, hb, hml, hown, hT⟩ hK hP hD [3, 4] rfl (by decide) (c_X12_late l g H.size q_102 q_103 q_104 q_105 q_106 q_107 q_108 q_109 q_110 q_111 q_112 q_113 q_114 q_115 q_116 q_117 q_118 q_119 q_120 q_121 q_122 q_123 q_124 q_125 q_126 q_127 q_128 q_129 q_130 q_131 q_132 q_133 q_134 q_135 q_136 q_137 q_138 q_139 q_140 q_141 q_142 q_143 q_144 q_145 q_146 q_147 q_148 q_149 q_150 q_151 q_152 q_153 q_154 q_155 (xs 1) (xs 2)) (gV bw_671 bw_672 bw_673 bw_233 bw_265) rfl rfl (by decide +kernel) ⟨by decide, by decide⟩ (ci := 12) (q0 := 0) rfl rfl (fun _ _ _ _ _ => trivial) (fun _ _ _ => trivial) rfl rfl hl.1 (Nat.le_of_ble_eq_true rfl) dL_law_824 ⟨by decide, by decide⟩) hP hS hA (fun r_201 _ H locs hw hP hS => ?_)
        have hw : r_201 = (-1) := hw
        subst hw
        refine lv_icmp_eq (tgt := 1217) hx hb dL_law_827 (by decide) (fun _ => ?_) (fun c9 => absurd (by decide) c9)
        refine lv_iinc (v := 6) (lv' := [(3, .int 6), (2, .ref q_102), (1, .ref q_1), (0, .ref b)]) hx hb dL_law_1217 hl (k := 0) rfl (by decide) (by decide) rfl (fun ls hl => ?_)
        refine lv_goto (tgt := 18) hx hb dL_law_1220 (by decide) ?_
        refine lv_iload_n hx hb dL_law_18 rfl (lv_at hl 0 rfl) ?_
        refine lv_aload_n hx hb dL_law_19 rfl (lv_at hl 3 rfl) ?_
        refine va_slen hx hb hXs hbl hbA hS dL_law_20 ?_
        refine p_ti (v := 6) rfl ?_
        refine lv_bipush (v := 6) hx hb dL_law_21 (by decide) ?_
        refine lv_isub hx hb dL_law_23 ?_
        refine p_ti (v := 0) (by decide +kernel) ?_
        refine lv_icmp_gt (tgt := 1223) hx hb dL_law_24 (by decide) (fun _ => ?_) (fun c9 => absurd (by decide) c9)
        refine lv_iconst (v := 1) hx hb dL_law_1223 (by decide) ?_
        refine va_forget (fun q hq => by have h9 := hS.2.2 q hq; rw [hAe] at h9; exact h9) ?_
        refine W.widen (k := 600000) (n := 7302249) (by decide) (by decide) ?_
        exact lw_ret hx hb hr hlocks dL_law_1224
      · obtain rfl : x_156 = 22 := eh_157
        refine lv_tableIn (tgt := 832) hx hb dL_law_33 (by decide) (by decide) (off := 799) (by decide) (by decide) ?_
        have hP : va_P g.1 vwCl [(q_1, .inr (11, [.ref q_2, .int 0, .ref q_3, .ref q_4, .ref q_5, .ref q_6, .int 0, .int 0, .ref q_7, .int 0, .ref q_8, .ref q_9, .ref q_10, .ref q_11])), (q_6, aO g 41 (va_up (va_up f_58 0 (some q_57)) 1 (some q_56))), (q_57, .inr (9, [.int 0, .int 0, .int 0, .int 0, .int 0, .int 0, .int 0, .ref q_59, .ref q_60, .ref q_61, .ref q_62, .ref q_63, .ref q_64, .ref q_65])), (q_102, .inr (12, [.ref q_103, .ref q_104, .int 0, .int 0, .int 0, .int (-1), .int 0, .int 0, .int 0, .int 0, .long 0, .ref q_105, .ref q_106, .ref q_107, .ref q_108, .ref q_109, .ref q_110, .ref q_111, .ref q_112, .ref q_113, .ref q_114, .ref q_115, .ref q_116, .ref q_117, .ref q_118, .ref q_119, .ref q_120, .ref q_121, .ref q_122, .ref q_123, .ref q_124, .ref q_125, .ref q_126, .ref q_127, .ref q_128, .ref q_129, .ref q_130, .ref q_131, .ref q_132, .ref q_133, .ref q_134, .ref q_135, .ref q_136, .int 0, .int 0, .int 0, .int 0, .int 0, .int 0, .int 0, .int 0, .int 0, .ref q_137, .ref q_138, .int 0, .int 0, .ref q_139, .ref q_140, .ref q_141, .ref q_142, .ref q_143, .ref q_144, .ref q_145, .ref q_146, .ref q_147, .ref q_148, .int 0, .int 0, .int 0, .int 0, .int 0, .int 0, .int 0, .int 0, .int 0, .int 0, .int 0, .int 0, .ref q_149, .ref q_150, .ref q_151, .ref q_152, .ref q_153, .int 0, .int 0, .ref q_154, .ref q_155])), (q_137, aI g 374 z0)] H := hP.sub [0, 14, 15, 58, 69] rfl
        have hD : va_D A [(q_1, .inr (11, [.ref q_2, .int 0, .ref q_3, .ref q_4, .ref q_5, .ref q_6, .int 0, .int 0, .ref q_7, .int 0, .ref q_8, .ref q_9, .ref q_10, .ref q_11])), (q_6, aO g 41 (va_up (va_up f_58 0 (some q_57)) 1 (some q_56))), (q_57, .inr (9, [.int 0, .int 0, .int 0, .int 0, .int 0, .int 0, .int 0, .ref q_59, .ref q_60, .ref q_61, .ref q_62, .ref q_63, .ref q_64, .ref q_65])), (q_102, .inr (12, [.ref q_103, .ref q_104, .int 0, .int 0, .int 0, .int (-1), .int 0, .int 0, .int 0, .int 0, .long 0, .ref q_105, .ref q_106, .ref q_107, .ref q_108, .ref q_109, .ref q_110, .ref q_111, .ref q_112, .ref q_113, .ref q_114, .ref q_115, .ref q_116, .ref q_117, .ref q_118, .ref q_119, .ref q_120, .ref q_121, .ref q_122, .ref q_123, .ref q_124, .ref q_125, .ref q_126, .ref q_127, .ref q_128, .ref q_129, .ref q_130, .ref q_131, .ref q_132, .ref q_133, .ref q_134, .ref q_135, .ref q_136, .int 0, .int 0, .int 0, .int 0, .int 0, .int 0, .int 0, .int 0, .int 0, .ref q_137, .ref q_138, .int 0, .int 0, .ref q_139, .ref q_140, .ref q_141, .ref q_142, .ref q_143, .ref q_144, .ref q_145, .ref q_146, .ref q_147, .ref q_148, .int 0, .int 0, .int 0, .int 0, .int 0, .int 0, .int 0, .int 0, .int 0, .int 0, .int 0, .int 0, .ref q_149, .ref q_150, .ref q_151, .ref q_152, .ref q_153, .int 0, .int 0, .ref q_154, .ref q_155])), (q_137, aI g 374 z0)] := hD.sub [0, 14, 15, 58, 69] (by decide) rfl
        refine lv_aload_n hx hb dL_law_832 rfl (lv_at hl 2 rfl) ?_
        refine lv_aload_n hx hb dL_law_833 rfl (lv_at hl 3 rfl) ?_
        refine lv_iload_n hx hb dL_law_834 rfl (lv_at hl 0 rfl) ?_
        refine lv_iconst (v := 1) hx hb dL_law_835 (by decide) ?_
        refine lv_iadd hx hb dL_law_836 ?_
        refine p_ti (v := 1) (by decide +kernel) ?_
        refine va_sld hx hb hXs hbl hbA hS (i := 1) (by unfold vp_in; decide) dL_law_837 ?_
        refine p_ti (v := xs 1) rfl ?_
        refine lv_aload_n hx hb dL_law_838 rfl (lv_at hl 3 rfl) ?_
        refine lv_iload_n hx hb dL_law_839 rfl (lv_at hl 0 rfl) ?_
        refine lv_iconst (v := 2) hx hb dL_law_840 (by decide) ?_
        refine lv_iadd hx hb dL_law_841 ?_
        refine p_ti (v := 2) (by decide +kernel) ?_
        refine va_sld hx hb hXs hbl hbA hS (i := 2) (by unfold vp_in; decide) dL_law_842 ?_
        refine p_ti (v := xs 2) rfl ?_
        refine k_iR (k_V (n := 2) ⟨hx, hb, hml, hown, hT⟩ hK hP hD [0, 1, 2] rfl (by decide) (c_X11_last l g H.size q_1 q_2 q_3 q_4 q_5 q_6 q_7 q_8 q_9 q_10 q_11 q_56 q_57 q_59 q_60 q_61 q_62 q_63 q_64 q_65 f_58 (xs 1) (xs 2)) (gV bw_674 bw_675 bw_676 bw_207 bw_53) rfl rfl (by decide +kernel) ⟨by decide, by decide⟩ (ci := 11) (q0 := 0) rfl rfl (fun _ _ _ _ _ => trivial) (fun _ _ _ => trivial) rfl rfl hl.1 (Nat.le_of_ble_eq_true rfl) dL_law_843 ⟨by decide, by decide⟩) hP hS hA (fun r_202 _ H locs hw hP hS => ?_)
        have hw : r_202 = (-1) := hw
        subst hw
        refine lv_aload_n hx hb dL_law_846 rfl (lv_at hl 1 rfl) ?_
        refine lv_aload_n hx hb dL_law_847 rfl (lv_at hl 3 rfl) ?_
        refine lv_iload_n hx hb dL_law_848 rfl (lv_at hl 0 rfl) ?_
        refine lv_iconst (v := 1) hx hb dL_law_849 (by decide) ?_
        refine lv_iadd hx hb dL_law_850 ?_
        refine p_ti (v := 1) (by decide +kernel) ?_
        refine va_sld hx hb hXs hbl hbA hS (i := 1) (by unfold vp_in; decide) dL_law_851 ?_
        refine p_ti (v := xs 1) rfl ?_
        refine lv_aload_n hx hb dL_law_852 rfl (lv_at hl 3 rfl) ?_
        refine lv_iload_n hx hb dL_law_853 rfl (lv_at hl 0 rfl) ?_
        refine lv_iconst (v := 2) hx hb dL_law_854 (by decide) ?_
        refine lv_iadd hx hb dL_law_855 ?_
        refine p_ti (v := 2) (by decide +kernel) ?_
        refine va_sld hx hb hXs hbl hbA hS (i := 2) (by unfold vp_in; decide) dL_law_856 ?_
        refine p_ti (v := xs 2) rfl ?_
        refine k_iR (k_V (n := 2) ⟨hx, hb, hml, hown, hT⟩ hK hP hD [3, 4] rfl (by decide) (c_X12_last l g H.size q_102 q_103 q_104 q_105 q_106 q_107 q_108 q_109 q_110 q_111 q_112 q_113 q_114 q_115 q_116 q_117 q_118 q_119 q_120 q_121 q_122 q_123 q_124 q_125 q_126 q_127 q_128 q_129 q_130 q_131 q_132 q_133 q_134 q_135 q_136 q_137 q_138 q_139 q_140 q_141 q_142 q_143 q_144 q_145 q_146 q_147 q_148 q_149 q_150 q_151 q_152 q_153 q_154 q_155 (xs 1) (xs 2)) (gV bw_677 bw_678 bw_679 bw_233 bw_266) rfl rfl (by decide +kernel) ⟨by decide, by decide⟩ (ci := 12) (q0 := 0) rfl rfl (fun _ _ _ _ _ => trivial) (fun _ _ _ => trivial) rfl rfl hl.1 (Nat.le_of_ble_eq_true rfl) dL_law_857 ⟨by decide, by decide⟩) hP hS hA (fun r_203 _ H locs hw hP hS => ?_)
        have hw : r_203 = (-1) := hw
        subst hw
        refine lv_icmp_eq (tgt := 1217) hx hb dL_law_860 (by decide) (fun _ => ?_) (fun c9 => absurd (by decide) c9)
        refine lv_iinc (v := 6) (lv' := [(3, .int 6), (2, .ref q_102), (1, .ref q_1), (0, .ref b)]) hx hb dL_law_1217 hl (k := 0) rfl (by decide) (by decide) rfl (fun ls hl => ?_)
        refine lv_goto (tgt := 18) hx hb dL_law_1220 (by decide) ?_
        refine lv_iload_n hx hb dL_law_18 rfl (lv_at hl 0 rfl) ?_
        refine lv_aload_n hx hb dL_law_19 rfl (lv_at hl 3 rfl) ?_
        refine va_slen hx hb hXs hbl hbA hS dL_law_20 ?_
        refine p_ti (v := 6) rfl ?_
        refine lv_bipush (v := 6) hx hb dL_law_21 (by decide) ?_
        refine lv_isub hx hb dL_law_23 ?_
        refine p_ti (v := 0) (by decide +kernel) ?_
        refine lv_icmp_gt (tgt := 1223) hx hb dL_law_24 (by decide) (fun _ => ?_) (fun c9 => absurd (by decide) c9)
        refine lv_iconst (v := 1) hx hb dL_law_1223 (by decide) ?_
        refine va_forget (fun q hq => by have h9 := hS.2.2 q hq; rw [hAe] at h9; exact h9) ?_
        refine W.widen (k := 600000) (n := 7302249) (by decide) (by decide) ?_
        exact lw_ret hx hb hr hlocks dL_law_1224
      · obtain rfl : x_156 = 23 := eh_157
        refine lv_tableIn (tgt := 865) hx hb dL_law_33 (by decide) (by decide) (off := 832) (by decide) (by decide) ?_
        have hP : va_P g.1 vwCl [(q_1, .inr (11, [.ref q_2, .int 0, .ref q_3, .ref q_4, .ref q_5, .ref q_6, .int 0, .int 0, .ref q_7, .int 0, .ref q_8, .ref q_9, .ref q_10, .ref q_11])), (q_4, .inr (2, [.ref q_14, .ref q_15, .ref q_16, .int 0, .ref q_17, .ref q_18, .int 9, .int 0, .ref q_19])), (q_14, .inr (3, [.int 0, .ref q_20, .ref q_21, .ref q_22, .ref q_23])), (q_6, aO g 41 (va_up (va_up f_58 0 (some q_57)) 1 (some q_56))), (q_102, .inr (12, [.ref q_103, .ref q_104, .int 0, .int 0, .int 0, .int (-1), .int 0, .int 0, .int 0, .int 0, .long 0, .ref q_105, .ref q_106, .ref q_107, .ref q_108, .ref q_109, .ref q_110, .ref q_111, .ref q_112, .ref q_113, .ref q_114, .ref q_115, .ref q_116, .ref q_117, .ref q_118, .ref q_119, .ref q_120, .ref q_121, .ref q_122, .ref q_123, .ref q_124, .ref q_125, .ref q_126, .ref q_127, .ref q_128, .ref q_129, .ref q_130, .ref q_131, .ref q_132, .ref q_133, .ref q_134, .ref q_135, .ref q_136, .int 0, .int 0, .int 0, .int 0, .int 0, .int 0, .int 0, .int 0, .int 0, .ref q_137, .ref q_138, .int 0, .int 0, .ref q_139, .ref q_140, .ref q_141, .ref q_142, .ref q_143, .ref q_144, .ref q_145, .ref q_146, .ref q_147, .ref q_148, .int 0, .int 0, .int 0, .int 0, .int 0, .int 0, .int 0, .int 0, .int 0, .int 0, .int 0, .int 0, .ref q_149, .ref q_150, .ref q_151, .ref q_152, .ref q_153, .int 0, .int 0, .ref q_154, .ref q_155])), (q_105, aI g 2 z0)] H := hP.sub [0, 4, 5, 14, 58, 60] rfl
        have hD : va_D A [(q_1, .inr (11, [.ref q_2, .int 0, .ref q_3, .ref q_4, .ref q_5, .ref q_6, .int 0, .int 0, .ref q_7, .int 0, .ref q_8, .ref q_9, .ref q_10, .ref q_11])), (q_4, .inr (2, [.ref q_14, .ref q_15, .ref q_16, .int 0, .ref q_17, .ref q_18, .int 9, .int 0, .ref q_19])), (q_14, .inr (3, [.int 0, .ref q_20, .ref q_21, .ref q_22, .ref q_23])), (q_6, aO g 41 (va_up (va_up f_58 0 (some q_57)) 1 (some q_56))), (q_102, .inr (12, [.ref q_103, .ref q_104, .int 0, .int 0, .int 0, .int (-1), .int 0, .int 0, .int 0, .int 0, .long 0, .ref q_105, .ref q_106, .ref q_107, .ref q_108, .ref q_109, .ref q_110, .ref q_111, .ref q_112, .ref q_113, .ref q_114, .ref q_115, .ref q_116, .ref q_117, .ref q_118, .ref q_119, .ref q_120, .ref q_121, .ref q_122, .ref q_123, .ref q_124, .ref q_125, .ref q_126, .ref q_127, .ref q_128, .ref q_129, .ref q_130, .ref q_131, .ref q_132, .ref q_133, .ref q_134, .ref q_135, .ref q_136, .int 0, .int 0, .int 0, .int 0, .int 0, .int 0, .int 0, .int 0, .int 0, .ref q_137, .ref q_138, .int 0, .int 0, .ref q_139, .ref q_140, .ref q_141, .ref q_142, .ref q_143, .ref q_144, .ref q_145, .ref q_146, .ref q_147, .ref q_148, .int 0, .int 0, .int 0, .int 0, .int 0, .int 0, .int 0, .int 0, .int 0, .int 0, .int 0, .int 0, .ref q_149, .ref q_150, .ref q_151, .ref q_152, .ref q_153, .int 0, .int 0, .ref q_154, .ref q_155])), (q_105, aI g 2 z0)] := hD.sub [0, 4, 5, 14, 58, 60] (by decide) rfl
        refine lv_aload_n hx hb dL_law_865 rfl (lv_at hl 2 rfl) ?_
        refine lv_aload_n hx hb dL_law_866 rfl (lv_at hl 3 rfl) ?_
        refine lv_iload_n hx hb dL_law_867 rfl (lv_at hl 0 rfl) ?_
        refine lv_iconst (v := 1) hx hb dL_law_868 (by decide) ?_
        refine lv_iadd hx hb dL_law_869 ?_
        refine p_ti (v := 1) (by decide +kernel) ?_
        refine va_sld hx hb hXs hbl hbA hS (i := 1) (by unfold vp_in; decide) dL_law_870 ?_
        refine p_ti (v := xs 1) rfl ?_
        refine k_iR (k_V (n := 1) ⟨hx, hb, hml, hown, hT⟩ hK hP hD [0, 1, 2, 3] rfl (by decide) (c_X11_shun l g H.size q_1 q_2 q_3 q_4 q_5 q_6 q_7 q_8 q_9 q_10 q_11 q_14 q_15 q_16 q_17 q_18 q_19 q_20 q_21 q_22 q_23 q_56 q_57 f_58 (xs 1)) (gV bw_680 bw_681 bw_682 bw_207 bw_54) rfl rfl (by decide +kernel) ⟨by decide, by decide⟩ (ci := 11) (q0 := 0) rfl rfl (fun _ _ _ _ _ => trivial) (fun _ _ _ => trivial) rfl rfl hl.1 (Nat.le_of_ble_eq_true rfl) dL_law_871 ⟨by decide, by decide⟩) hP hS hA (fun r_204 _ H locs hw hP hS => ?_)
        have hw : r_204 = (-1) := hw
        subst hw
        refine lv_aload_n hx hb dL_law_874 rfl (lv_at hl 1 rfl) ?_
        refine lv_aload_n hx hb dL_law_875 rfl (lv_at hl 3 rfl) ?_
        refine lv_iload_n hx hb dL_law_876 rfl (lv_at hl 0 rfl) ?_
        refine lv_iconst (v := 1) hx hb dL_law_877 (by decide) ?_
        refine lv_iadd hx hb dL_law_878 ?_
        refine p_ti (v := 1) (by decide +kernel) ?_
        refine va_sld hx hb hXs hbl hbA hS (i := 1) (by unfold vp_in; decide) dL_law_879 ?_
        refine p_ti (v := xs 1) rfl ?_
        refine k_iR (k_V (n := 1) ⟨hx, hb, hml, hown, hT⟩ hK hP hD [4, 5] rfl (by decide) (c_X12_shun l g H.size q_102 q_103 q_104 q_105 q_106 q_107 q_108 q_109 q_110 q_111 q_112 q_113 q_114 q_115 q_116 q_117 q_118 q_119 q_120 q_121 q_122 q_123 q_124 q_125 q_126 q_127 q_128 q_129 q_130 q_131 q_132 q_133 q_134 q_135 q_136 q_137 q_138 q_139 q_140 q_141 q_142 q_143 q_144 q_145 q_146 q_147 q_148 q_149 q_150 q_151 q_152 q_153 q_154 q_155 (xs 1)) (gV bw_683 bw_684 bw_685 bw_233 bw_267) rfl rfl (by decide +kernel) ⟨by decide, by decide⟩ (ci := 12) (q0 := 0) rfl rfl (fun _ _ _ _ _ => trivial) (fun _ _ _ => trivial) rfl rfl hl.1 (Nat.le_of_ble_eq_true rfl) dL_law_880 ⟨by decide, by decide⟩) hP hS hA (fun r_205 _ H locs hw hP hS => ?_)
        have hw : r_205 = (-1) := hw
        subst hw
        refine lv_icmp_eq (tgt := 1217) hx hb dL_law_883 (by decide) (fun _ => ?_) (fun c9 => absurd (by decide) c9)
        refine lv_iinc (v := 6) (lv' := [(3, .int 6), (2, .ref q_102), (1, .ref q_1), (0, .ref b)]) hx hb dL_law_1217 hl (k := 0) rfl (by decide) (by decide) rfl (fun ls hl => ?_)
        refine lv_goto (tgt := 18) hx hb dL_law_1220 (by decide) ?_
        refine lv_iload_n hx hb dL_law_18 rfl (lv_at hl 0 rfl) ?_
        refine lv_aload_n hx hb dL_law_19 rfl (lv_at hl 3 rfl) ?_
        refine va_slen hx hb hXs hbl hbA hS dL_law_20 ?_
        refine p_ti (v := 6) rfl ?_
        refine lv_bipush (v := 6) hx hb dL_law_21 (by decide) ?_
        refine lv_isub hx hb dL_law_23 ?_
        refine p_ti (v := 0) (by decide +kernel) ?_
        refine lv_icmp_gt (tgt := 1223) hx hb dL_law_24 (by decide) (fun _ => ?_) (fun c9 => absurd (by decide) c9)
        refine lv_iconst (v := 1) hx hb dL_law_1223 (by decide) ?_
        refine va_forget (fun q hq => by have h9 := hS.2.2 q hq; rw [hAe] at h9; exact h9) ?_
        refine W.widen (k := 600000) (n := 7302249) (by decide) (by decide) ?_
        exact lw_ret hx hb hr hlocks dL_law_1224
      · obtain rfl : x_156 = 24 := eh_157
        refine lv_tableIn (tgt := 888) hx hb dL_law_33 (by decide) (by decide) (off := 855) (by decide) (by decide) ?_
        have hP : va_P g.1 vwCl [(q_1, .inr (11, [.ref q_2, .int 0, .ref q_3, .ref q_4, .ref q_5, .ref q_6, .int 0, .int 0, .ref q_7, .int 0, .ref q_8, .ref q_9, .ref q_10, .ref q_11])), (q_6, aO g 41 (va_up (va_up f_58 0 (some q_57)) 1 (some q_56))), (q_57, .inr (9, [.int 0, .int 0, .int 0, .int 0, .int 0, .int 0, .int 0, .ref q_59, .ref q_60, .ref q_61, .ref q_62, .ref q_63, .ref q_64, .ref q_65])), (q_11, .inr (1, [.int 0, .ref q_101])), (q_102, .inr (12, [.ref q_103, .ref q_104, .int 0, .int 0, .int 0, .int (-1), .int 0, .int 0, .int 0, .int 0, .long 0, .ref q_105, .ref q_106, .ref q_107, .ref q_108, .ref q_109, .ref q_110, .ref q_111, .ref q_112, .ref q_113, .ref q_114, .ref q_115, .ref q_116, .ref q_117, .ref q_118, .ref q_119, .ref q_120, .ref q_121, .ref q_122, .ref q_123, .ref q_124, .ref q_125, .ref q_126, .ref q_127, .ref q_128, .ref q_129, .ref q_130, .ref q_131, .ref q_132, .ref q_133, .ref q_134, .ref q_135, .ref q_136, .int 0, .int 0, .int 0, .int 0, .int 0, .int 0, .int 0, .int 0, .int 0, .ref q_137, .ref q_138, .int 0, .int 0, .ref q_139, .ref q_140, .ref q_141, .ref q_142, .ref q_143, .ref q_144, .ref q_145, .ref q_146, .ref q_147, .ref q_148, .int 0, .int 0, .int 0, .int 0, .int 0, .int 0, .int 0, .int 0, .int 0, .int 0, .int 0, .int 0, .ref q_149, .ref q_150, .ref q_151, .ref q_152, .ref q_153, .int 0, .int 0, .ref q_154, .ref q_155])), (q_137, aI g 374 z0)] H := hP.sub [0, 14, 15, 57, 58, 69] rfl
        have hD : va_D A [(q_1, .inr (11, [.ref q_2, .int 0, .ref q_3, .ref q_4, .ref q_5, .ref q_6, .int 0, .int 0, .ref q_7, .int 0, .ref q_8, .ref q_9, .ref q_10, .ref q_11])), (q_6, aO g 41 (va_up (va_up f_58 0 (some q_57)) 1 (some q_56))), (q_57, .inr (9, [.int 0, .int 0, .int 0, .int 0, .int 0, .int 0, .int 0, .ref q_59, .ref q_60, .ref q_61, .ref q_62, .ref q_63, .ref q_64, .ref q_65])), (q_11, .inr (1, [.int 0, .ref q_101])), (q_102, .inr (12, [.ref q_103, .ref q_104, .int 0, .int 0, .int 0, .int (-1), .int 0, .int 0, .int 0, .int 0, .long 0, .ref q_105, .ref q_106, .ref q_107, .ref q_108, .ref q_109, .ref q_110, .ref q_111, .ref q_112, .ref q_113, .ref q_114, .ref q_115, .ref q_116, .ref q_117, .ref q_118, .ref q_119, .ref q_120, .ref q_121, .ref q_122, .ref q_123, .ref q_124, .ref q_125, .ref q_126, .ref q_127, .ref q_128, .ref q_129, .ref q_130, .ref q_131, .ref q_132, .ref q_133, .ref q_134, .ref q_135, .ref q_136, .int 0, .int 0, .int 0, .int 0, .int 0, .int 0, .int 0, .int 0, .int 0, .ref q_137, .ref q_138, .int 0, .int 0, .ref q_139, .ref q_140, .ref q_141, .ref q_142, .ref q_143, .ref q_144, .ref q_145, .ref q_146, .ref q_147, .ref q_148, .int 0, .int 0, .int 0, .int 0, .int 0, .int 0, .int 0, .int 0, .int 0, .int 0, .int 0, .int 0, .ref q_149, .ref q_150, .ref q_151, .ref q_152, .ref q_153, .int 0, .int 0, .ref q_154, .ref q_155])), (q_137, aI g 374 z0)] := hD.sub [0, 14, 15, 57, 58, 69] (by decide) rfl
        refine lv_aload_n hx hb dL_law_888 rfl (lv_at hl 2 rfl) ?_
        refine lv_aload_n hx hb dL_law_889 rfl (lv_at hl 3 rfl) ?_
        refine lv_iload_n hx hb dL_law_890 rfl (lv_at hl 0 rfl) ?_
        refine lv_iconst (v := 1) hx hb dL_law_891 (by decide) ?_
        refine lv_iadd hx hb dL_law_892 ?_
        refine p_ti (v := 1) (by decide +kernel) ?_
        refine va_sld hx hb hXs hbl hbA hS (i := 1) (by unfold vp_in; decide) dL_law_893 ?_
        refine p_ti (v := xs 1) rfl ?_
        refine lv_aload_n hx hb dL_law_894 rfl (lv_at hl 3 rfl) ?_
        refine lv_iload_n hx hb dL_law_895 rfl (lv_at hl 0 rfl) ?_
        refine lv_iconst (v := 2) hx hb dL_law_896 (by decide) ?_
        refine lv_iadd hx hb dL_law_897 ?_
        refine p_ti (v := 2) (by decide +kernel) ?_
        refine va_sld hx hb hXs hbl hbA hS (i := 2) (by unfold vp_in; decide) dL_law_898 ?_
        refine p_ti (v := xs 2) rfl ?_
        refine k_i (wr := [(q_102, .inr (12, [.ref q_103, .ref q_104, .int 0, .int 0, .int 0, .int (-1), .int 0, .int 0, .int 0, .int 0, .long 0, .ref q_105, .ref q_106, .ref q_107, .ref q_108, .ref q_109, .ref q_110, .ref q_111, .ref q_112, .ref q_113, .ref q_114, .ref q_115, .ref q_116, .ref q_117, .ref q_118, .ref q_119, .ref q_120, .ref q_121, .ref q_122, .ref q_123, .ref q_124, .ref q_125, .ref q_126, .ref q_127, .ref q_128, .ref q_129, .ref q_130, .ref q_131, .ref q_132, .ref q_133, .ref q_134, .ref q_135, .ref q_136, .int 0, .int 0, .int 0, .int 0, .int 0, .int 0, .int 0, .int 0, .int 0, .ref q_137, .ref q_138, .int 0, .int 0, .ref q_139, .ref q_140, .ref q_141, .ref q_142, .ref q_143, .ref q_144, .ref q_145, .ref q_146, .ref q_147, .ref q_148, .int 0, .int 0, .int 0, .int 0, .int 0, .int 0, .int 0, .int 0, .int 0, .int 0, .int 0, .int 0, .ref q_149, .ref q_150, .ref q_151, .ref q_152, .ref q_153, .int 0, .int 0, .ref q_154, .ref q_155])), (q_137, aI g 374 z0)]) (k_V (n := 2) ⟨hx, hb, hml, hown, hT⟩ hK hP hD [0, 1, 2, 3] rfl (by decide) (c_X11_hire l g H.size q_1 q_2 q_3 q_4 q_5 q_6 q_7 q_8 q_9 q_10 q_11 q_56 q_57 q_59 q_60 q_61 q_62 q_63 q_64 q_65 q_101 f_58 (xs 1) (xs 2)) (gV bw_686 bw_687 bw_688 bw_207 bw_76) rfl rfl (by decide +kernel) ⟨by decide, by decide⟩ (ci := 11) (q0 := 0) rfl rfl (fun _ _ _ _ _ => trivial) (fun _ _ _ => trivial) rfl rfl hl.1 (Nat.le_of_ble_eq_true rfl) dL_law_899 ⟨by decide, by decide⟩) hP hD hS hA [0, 1, 2, 3] [4, 5] rfl rfl (by decide) (by decide) (fun r_206 u H locs hw hP hD hS => ?_)
        have hP : va_P g.1 vwCl [(q_102, .inr (12, [.ref q_103, .ref q_104, .int 0, .int 0, .int 0, .int (-1), .int 0, .int 0, .int 0, .int 0, .long 0, .ref q_105, .ref q_106, .ref q_107, .ref q_108, .ref q_109, .ref q_110, .ref q_111, .ref q_112, .ref q_113, .ref q_114, .ref q_115, .ref q_116, .ref q_117, .ref q_118, .ref q_119, .ref q_120, .ref q_121, .ref q_122, .ref q_123, .ref q_124, .ref q_125, .ref q_126, .ref q_127, .ref q_128, .ref q_129, .ref q_130, .ref q_131, .ref q_132, .ref q_133, .ref q_134, .ref q_135, .ref q_136, .int 0, .int 0, .int 0, .int 0, .int 0, .int 0, .int 0, .int 0, .int 0, .ref q_137, .ref q_138, .int 0, .int 0, .ref q_139, .ref q_140, .ref q_141, .ref q_142, .ref q_143, .ref q_144, .ref q_145, .ref q_146, .ref q_147, .ref q_148, .int 0, .int 0, .int 0, .int 0, .int 0, .int 0, .int 0, .int 0, .int 0, .int 0, .int 0, .int 0, .ref q_149, .ref q_150, .ref q_151, .ref q_152, .ref q_153, .int 0, .int 0, .ref q_154, .ref q_155])), (q_137, aI g 374 z0)] H := hP
        have hD : va_D A [(q_102, .inr (12, [.ref q_103, .ref q_104, .int 0, .int 0, .int 0, .int (-1), .int 0, .int 0, .int 0, .int 0, .long 0, .ref q_105, .ref q_106, .ref q_107, .ref q_108, .ref q_109, .ref q_110, .ref q_111, .ref q_112, .ref q_113, .ref q_114, .ref q_115, .ref q_116, .ref q_117, .ref q_118, .ref q_119, .ref q_120, .ref q_121, .ref q_122, .ref q_123, .ref q_124, .ref q_125, .ref q_126, .ref q_127, .ref q_128, .ref q_129, .ref q_130, .ref q_131, .ref q_132, .ref q_133, .ref q_134, .ref q_135, .ref q_136, .int 0, .int 0, .int 0, .int 0, .int 0, .int 0, .int 0, .int 0, .int 0, .ref q_137, .ref q_138, .int 0, .int 0, .ref q_139, .ref q_140, .ref q_141, .ref q_142, .ref q_143, .ref q_144, .ref q_145, .ref q_146, .ref q_147, .ref q_148, .int 0, .int 0, .int 0, .int 0, .int 0, .int 0, .int 0, .int 0, .int 0, .int 0, .int 0, .int 0, .ref q_149, .ref q_150, .ref q_151, .ref q_152, .ref q_153, .int 0, .int 0, .ref q_154, .ref q_155])), (q_137, aI g 374 z0)] := hD
        have hw : r_206 = (-1) := hw
        subst hw
        refine lv_aload_n hx hb dL_law_902 rfl (lv_at hl 1 rfl) ?_
        refine lv_aload_n hx hb dL_law_903 rfl (lv_at hl 3 rfl) ?_
        refine lv_iload_n hx hb dL_law_904 rfl (lv_at hl 0 rfl) ?_
        refine lv_iconst (v := 1) hx hb dL_law_905 (by decide) ?_
        refine lv_iadd hx hb dL_law_906 ?_
        refine p_ti (v := 1) (by decide +kernel) ?_
        refine va_sld hx hb hXs hbl hbA hS (i := 1) (by unfold vp_in; decide) dL_law_907 ?_
        refine p_ti (v := xs 1) rfl ?_
        refine lv_aload_n hx hb dL_law_908 rfl (lv_at hl 3 rfl) ?_
        refine lv_iload_n hx hb dL_law_909 rfl (lv_at hl 0 rfl) ?_
        refine lv_iconst (v := 2) hx hb dL_law_910 (by decide) ?_
        refine lv_iadd hx hb dL_law_911 ?_
        refine p_ti (v := 2) (by decide +kernel) ?_
        refine va_sld hx hb hXs hbl hbA hS (i := 2) (by unfold vp_in; decide) dL_law_912 ?_
        refine p_ti (v := xs 2) rfl ?_
        refine k_i (wr := []) (k_V (n := 2) ⟨hx, hb, hml, hown, hT⟩ hK hP hD [0, 1] rfl (by decide) (c_X12_hire l g H.size q_102 q_103 q_104 q_105 q_106 q_107 q_108 q_109 q_110 q_111 q_112 q_113 q_114 q_115 q_116 q_117 q_118 q_119 q_120 q_121 q_122 q_123 q_124 q_125 q_126 q_127 q_128 q_129 q_130 q_131 q_132 q_133 q_134 q_135 q_136 q_137 q_138 q_139 q_140 q_141 q_142 q_143 q_144 q_145 q_146 q_147 q_148 q_149 q_150 q_151 q_152 q_153 q_154 q_155 (xs 1) (xs 2)) (gV bw_689 bw_690 bw_691 bw_233 bw_279) rfl rfl (by decide +kernel) ⟨by decide, by decide⟩ (ci := 12) (q0 := 0) rfl rfl (fun _ _ _ _ _ => trivial) (fun _ _ _ => trivial) rfl rfl hl.1 (Nat.le_of_ble_eq_true rfl) dL_law_913 ⟨by decide, by decide⟩) hP hD hS hA [0, 1] [] rfl rfl (by decide) (by decide) (fun r_207 u H locs hw hP hD hS => ?_)
        have hP : va_P g.1 vwCl [] H := hP
        have hD : va_D A [] := hD
        have hw : r_207 = (-1) := hw
        subst hw
        refine lv_icmp_eq (tgt := 1217) hx hb dL_law_916 (by decide) (fun _ => ?_) (fun c9 => absurd (by decide) c9)
        refine lv_iinc (v := 6) (lv' := [(3, .int 6), (2, .ref q_102), (1, .ref q_1), (0, .ref b)]) hx hb dL_law_1217 hl (k := 0) rfl (by decide) (by decide) rfl (fun ls hl => ?_)
        refine lv_goto (tgt := 18) hx hb dL_law_1220 (by decide) ?_
        refine lv_iload_n hx hb dL_law_18 rfl (lv_at hl 0 rfl) ?_
        refine lv_aload_n hx hb dL_law_19 rfl (lv_at hl 3 rfl) ?_
        refine va_slen hx hb hXs hbl hbA hS dL_law_20 ?_
        refine p_ti (v := 6) rfl ?_
        refine lv_bipush (v := 6) hx hb dL_law_21 (by decide) ?_
        refine lv_isub hx hb dL_law_23 ?_
        refine p_ti (v := 0) (by decide +kernel) ?_
        refine lv_icmp_gt (tgt := 1223) hx hb dL_law_24 (by decide) (fun _ => ?_) (fun c9 => absurd (by decide) c9)
        refine lv_iconst (v := 1) hx hb dL_law_1223 (by decide) ?_
        refine va_forget (fun q hq => by have h9 := hS.2.2 q hq; rw [hAe] at h9; exact h9) ?_
        refine W.widen (k := 600000) (n := 7302249) (by decide) (by decide) ?_
        exact lw_ret hx hb hr hlocks dL_law_1224
      · obtain rfl : x_156 = 25 := eh_157
        refine lv_tableIn (tgt := 921) hx hb dL_law_33 (by decide) (by decide) (off := 888) (by decide) (by decide) ?_
        have hP : va_P g.1 vwCl [(q_1, .inr (11, [.ref q_2, .int 0, .ref q_3, .ref q_4, .ref q_5, .ref q_6, .int 0, .int 0, .ref q_7, .int 0, .ref q_8, .ref q_9, .ref q_10, .ref q_11])), (q_4, .inr (2, [.ref q_14, .ref q_15, .ref q_16, .int 0, .ref q_17, .ref q_18, .int 9, .int 0, .ref q_19])), (q_14, .inr (3, [.int 0, .ref q_20, .ref q_21, .ref q_22, .ref q_23])), (q_102, .inr (12, [.ref q_103, .ref q_104, .int 0, .int 0, .int 0, .int (-1), .int 0, .int 0, .int 0, .int 0, .long 0, .ref q_105, .ref q_106, .ref q_107, .ref q_108, .ref q_109, .ref q_110, .ref q_111, .ref q_112, .ref q_113, .ref q_114, .ref q_115, .ref q_116, .ref q_117, .ref q_118, .ref q_119, .ref q_120, .ref q_121, .ref q_122, .ref q_123, .ref q_124, .ref q_125, .ref q_126, .ref q_127, .ref q_128, .ref q_129, .ref q_130, .ref q_131, .ref q_132, .ref q_133, .ref q_134, .ref q_135, .ref q_136, .int 0, .int 0, .int 0, .int 0, .int 0, .int 0, .int 0, .int 0, .int 0, .ref q_137, .ref q_138, .int 0, .int 0, .ref q_139, .ref q_140, .ref q_141, .ref q_142, .ref q_143, .ref q_144, .ref q_145, .ref q_146, .ref q_147, .ref q_148, .int 0, .int 0, .int 0, .int 0, .int 0, .int 0, .int 0, .int 0, .int 0, .int 0, .int 0, .int 0, .ref q_149, .ref q_150, .ref q_151, .ref q_152, .ref q_153, .int 0, .int 0, .ref q_154, .ref q_155])), (q_105, aI g 2 z0)] H := hP.sub [0, 4, 5, 58, 60] rfl
        have hD : va_D A [(q_1, .inr (11, [.ref q_2, .int 0, .ref q_3, .ref q_4, .ref q_5, .ref q_6, .int 0, .int 0, .ref q_7, .int 0, .ref q_8, .ref q_9, .ref q_10, .ref q_11])), (q_4, .inr (2, [.ref q_14, .ref q_15, .ref q_16, .int 0, .ref q_17, .ref q_18, .int 9, .int 0, .ref q_19])), (q_14, .inr (3, [.int 0, .ref q_20, .ref q_21, .ref q_22, .ref q_23])), (q_102, .inr (12, [.ref q_103, .ref q_104, .int 0, .int 0, .int 0, .int (-1), .int 0, .int 0, .int 0, .int 0, .long 0, .ref q_105, .ref q_106, .ref q_107, .ref q_108, .ref q_109, .ref q_110, .ref q_111, .ref q_112, .ref q_113, .ref q_114, .ref q_115, .ref q_116, .ref q_117, .ref q_118, .ref q_119, .ref q_120, .ref q_121, .ref q_122, .ref q_123, .ref q_124, .ref q_125, .ref q_126, .ref q_127, .ref q_128, .ref q_129, .ref q_130, .ref q_131, .ref q_132, .ref q_133, .ref q_134, .ref q_135, .ref q_136, .int 0, .int 0, .int 0, .int 0, .int 0, .int 0, .int 0, .int 0, .int 0, .ref q_137, .ref q_138, .int 0, .int 0, .ref q_139, .ref q_140, .ref q_141, .ref q_142, .ref q_143, .ref q_144, .ref q_145, .ref q_146, .ref q_147, .ref q_148, .int 0, .int 0, .int 0, .int 0, .int 0, .int 0, .int 0, .int 0, .int 0, .int 0, .int 0, .int 0, .ref q_149, .ref q_150, .ref q_151, .ref q_152, .ref q_153, .int 0, .int 0, .ref q_154, .ref q_155])), (q_105, aI g 2 z0)] := hD.sub [0, 4, 5, 58, 60] (by decide) rfl
        refine lv_aload_n hx hb dL_law_921 rfl (lv_at hl 2 rfl) ?_
        refine lv_aload_n hx hb dL_law_922 rfl (lv_at hl 3 rfl) ?_
        refine lv_iload_n hx hb dL_law_923 rfl (lv_at hl 0 rfl) ?_
        refine lv_iconst (v := 1) hx hb dL_law_924 (by decide) ?_
        refine lv_iadd hx hb dL_law_925 ?_
        refine p_ti (v := 1) (by decide +kernel) ?_
        refine va_sld hx hb hXs hbl hbA hS (i := 1) (by unfold vp_in; decide) dL_law_926 ?_
        refine p_ti (v := xs 1) rfl ?_
        refine k_iR (k_V (n := 1) ⟨hx, hb, hml, hown, hT⟩ hK hP hD [0, 1, 2] rfl (by decide) (c_X11_clash l g H.size q_1 q_2 q_3 q_4 q_5 q_6 q_7 q_8 q_9 q_10 q_11 q_14 q_15 q_16 q_17 q_18 q_19 q_20 q_21 q_22 q_23 (xs 1)) (gV bw_692 bw_693 bw_694 bw_207 bw_55) rfl rfl (by decide +kernel) ⟨by decide, by decide⟩ (ci := 11) (q0 := 0) rfl rfl (fun _ _ _ _ _ => trivial) (fun _ _ _ => trivial) rfl rfl hl.1 (Nat.le_of_ble_eq_true rfl) dL_law_927 ⟨by decide, by decide⟩) hP hS hA (fun r_208 _ H locs hw hP hS => ?_)
        have hw : r_208 = (-1) := hw
        subst hw
        refine lv_aload_n hx hb dL_law_930 rfl (lv_at hl 1 rfl) ?_
        refine lv_aload_n hx hb dL_law_931 rfl (lv_at hl 3 rfl) ?_
        refine lv_iload_n hx hb dL_law_932 rfl (lv_at hl 0 rfl) ?_
        refine lv_iconst (v := 1) hx hb dL_law_933 (by decide) ?_
        refine lv_iadd hx hb dL_law_934 ?_
        refine p_ti (v := 1) (by decide +kernel) ?_
        refine va_sld hx hb hXs hbl hbA hS (i := 1) (by unfold vp_in; decide) dL_law_935 ?_
        refine p_ti (v := xs 1) rfl ?_
        refine k_iR (k_V (n := 1) ⟨hx, hb, hml, hown, hT⟩ hK hP hD [3, 4] rfl (by decide) (c_X12_clash l g H.size q_102 q_103 q_104 q_105 q_106 q_107 q_108 q_109 q_110 q_111 q_112 q_113 q_114 q_115 q_116 q_117 q_118 q_119 q_120 q_121 q_122 q_123 q_124 q_125 q_126 q_127 q_128 q_129 q_130 q_131 q_132 q_133 q_134 q_135 q_136 q_137 q_138 q_139 q_140 q_141 q_142 q_143 q_144 q_145 q_146 q_147 q_148 q_149 q_150 q_151 q_152 q_153 q_154 q_155 (xs 1)) (gV bw_695 bw_696 bw_697 bw_233 bw_268) rfl rfl (by decide +kernel) ⟨by decide, by decide⟩ (ci := 12) (q0 := 0) rfl rfl (fun _ _ _ _ _ => trivial) (fun _ _ _ => trivial) rfl rfl hl.1 (Nat.le_of_ble_eq_true rfl) dL_law_936 ⟨by decide, by decide⟩) hP hS hA (fun r_209 _ H locs hw hP hS => ?_)
        have hw : r_209 = (-1) := hw
        subst hw
        refine lv_icmp_eq (tgt := 1217) hx hb dL_law_939 (by decide) (fun _ => ?_) (fun c9 => absurd (by decide) c9)
        refine lv_iinc (v := 6) (lv' := [(3, .int 6), (2, .ref q_102), (1, .ref q_1), (0, .ref b)]) hx hb dL_law_1217 hl (k := 0) rfl (by decide) (by decide) rfl (fun ls hl => ?_)
        refine lv_goto (tgt := 18) hx hb dL_law_1220 (by decide) ?_
        refine lv_iload_n hx hb dL_law_18 rfl (lv_at hl 0 rfl) ?_
        refine lv_aload_n hx hb dL_law_19 rfl (lv_at hl 3 rfl) ?_
        refine va_slen hx hb hXs hbl hbA hS dL_law_20 ?_
        refine p_ti (v := 6) rfl ?_
        refine lv_bipush (v := 6) hx hb dL_law_21 (by decide) ?_
        refine lv_isub hx hb dL_law_23 ?_
        refine p_ti (v := 0) (by decide +kernel) ?_
        refine lv_icmp_gt (tgt := 1223) hx hb dL_law_24 (by decide) (fun _ => ?_) (fun c9 => absurd (by decide) c9)
        refine lv_iconst (v := 1) hx hb dL_law_1223 (by decide) ?_
        refine va_forget (fun q hq => by have h9 := hS.2.2 q hq; rw [hAe] at h9; exact h9) ?_
        refine W.widen (k := 600000) (n := 7302249) (by decide) (by decide) ?_
        exact lw_ret hx hb hr hlocks dL_law_1224
      · obtain rfl : x_156 = 26 := eh_157
        refine lv_tableIn (tgt := 944) hx hb dL_law_33 (by decide) (by decide) (off := 911) (by decide) (by decide) ?_
        have hP : va_P g.1 vwCl [(q_1, .inr (11, [.ref q_2, .int 0, .ref q_3, .ref q_4, .ref q_5, .ref q_6, .int 0, .int 0, .ref q_7, .int 0, .ref q_8, .ref q_9, .ref q_10, .ref q_11])), (q_4, .inr (2, [.ref q_14, .ref q_15, .ref q_16, .int 0, .ref q_17, .ref q_18, .int 9, .int 0, .ref q_19])), (q_14, .inr (3, [.int 0, .ref q_20, .ref q_21, .ref q_22, .ref q_23])), (q_11, .inr (1, [.int 0, .ref q_101])), (q_102, .inr (12, [.ref q_103, .ref q_104, .int 0, .int 0, .int 0, .int (-1), .int 0, .int 0, .int 0, .int 0, .long 0, .ref q_105, .ref q_106, .ref q_107, .ref q_108, .ref q_109, .ref q_110, .ref q_111, .ref q_112, .ref q_113, .ref q_114, .ref q_115, .ref q_116, .ref q_117, .ref q_118, .ref q_119, .ref q_120, .ref q_121, .ref q_122, .ref q_123, .ref q_124, .ref q_125, .ref q_126, .ref q_127, .ref q_128, .ref q_129, .ref q_130, .ref q_131, .ref q_132, .ref q_133, .ref q_134, .ref q_135, .ref q_136, .int 0, .int 0, .int 0, .int 0, .int 0, .int 0, .int 0, .int 0, .int 0, .ref q_137, .ref q_138, .int 0, .int 0, .ref q_139, .ref q_140, .ref q_141, .ref q_142, .ref q_143, .ref q_144, .ref q_145, .ref q_146, .ref q_147, .ref q_148, .int 0, .int 0, .int 0, .int 0, .int 0, .int 0, .int 0, .int 0, .int 0, .int 0, .int 0, .int 0, .ref q_149, .ref q_150, .ref q_151, .ref q_152, .ref q_153, .int 0, .int 0, .ref q_154, .ref q_155])), (q_105, aI g 2 z0)] H := hP.sub [0, 4, 5, 57, 58, 60] rfl
        have hD : va_D A [(q_1, .inr (11, [.ref q_2, .int 0, .ref q_3, .ref q_4, .ref q_5, .ref q_6, .int 0, .int 0, .ref q_7, .int 0, .ref q_8, .ref q_9, .ref q_10, .ref q_11])), (q_4, .inr (2, [.ref q_14, .ref q_15, .ref q_16, .int 0, .ref q_17, .ref q_18, .int 9, .int 0, .ref q_19])), (q_14, .inr (3, [.int 0, .ref q_20, .ref q_21, .ref q_22, .ref q_23])), (q_11, .inr (1, [.int 0, .ref q_101])), (q_102, .inr (12, [.ref q_103, .ref q_104, .int 0, .int 0, .int 0, .int (-1), .int 0, .int 0, .int 0, .int 0, .long 0, .ref q_105, .ref q_106, .ref q_107, .ref q_108, .ref q_109, .ref q_110, .ref q_111, .ref q_112, .ref q_113, .ref q_114, .ref q_115, .ref q_116, .ref q_117, .ref q_118, .ref q_119, .ref q_120, .ref q_121, .ref q_122, .ref q_123, .ref q_124, .ref q_125, .ref q_126, .ref q_127, .ref q_128, .ref q_129, .ref q_130, .ref q_131, .ref q_132, .ref q_133, .ref q_134, .ref q_135, .ref q_136, .int 0, .int 0, .int 0, .int 0, .int 0, .int 0, .int 0, .int 0, .int 0, .ref q_137, .ref q_138, .int 0, .int 0, .ref q_139, .ref q_140, .ref q_141, .ref q_142, .ref q_143, .ref q_144, .ref q_145, .ref q_146, .ref q_147, .ref q_148, .int 0, .int 0, .int 0, .int 0, .int 0, .int 0, .int 0, .int 0, .int 0, .int 0, .int 0, .int 0, .ref q_149, .ref q_150, .ref q_151, .ref q_152, .ref q_153, .int 0, .int 0, .ref q_154, .ref q_155])), (q_105, aI g 2 z0)] := hD.sub [0, 4, 5, 57, 58, 60] (by decide) rfl
        refine lv_aload_n hx hb dL_law_944 rfl (lv_at hl 2 rfl) ?_
        refine lv_aload_n hx hb dL_law_945 rfl (lv_at hl 3 rfl) ?_
        refine lv_iload_n hx hb dL_law_946 rfl (lv_at hl 0 rfl) ?_
        refine lv_iconst (v := 1) hx hb dL_law_947 (by decide) ?_
        refine lv_iadd hx hb dL_law_948 ?_
        refine p_ti (v := 1) (by decide +kernel) ?_
        refine va_sld hx hb hXs hbl hbA hS (i := 1) (by unfold vp_in; decide) dL_law_949 ?_
        refine p_ti (v := xs 1) rfl ?_
        refine k_i (wr := [(q_102, .inr (12, [.ref q_103, .ref q_104, .int 0, .int 0, .int 0, .int (-1), .int 0, .int 0, .int 0, .int 0, .long 0, .ref q_105, .ref q_106, .ref q_107, .ref q_108, .ref q_109, .ref q_110, .ref q_111, .ref q_112, .ref q_113, .ref q_114, .ref q_115, .ref q_116, .ref q_117, .ref q_118, .ref q_119, .ref q_120, .ref q_121, .ref q_122, .ref q_123, .ref q_124, .ref q_125, .ref q_126, .ref q_127, .ref q_128, .ref q_129, .ref q_130, .ref q_131, .ref q_132, .ref q_133, .ref q_134, .ref q_135, .ref q_136, .int 0, .int 0, .int 0, .int 0, .int 0, .int 0, .int 0, .int 0, .int 0, .ref q_137, .ref q_138, .int 0, .int 0, .ref q_139, .ref q_140, .ref q_141, .ref q_142, .ref q_143, .ref q_144, .ref q_145, .ref q_146, .ref q_147, .ref q_148, .int 0, .int 0, .int 0, .int 0, .int 0, .int 0, .int 0, .int 0, .int 0, .int 0, .int 0, .int 0, .ref q_149, .ref q_150, .ref q_151, .ref q_152, .ref q_153, .int 0, .int 0, .ref q_154, .ref q_155])), (q_105, aI g 2 z0)]) (k_V (n := 1) ⟨hx, hb, hml, hown, hT⟩ hK hP hD [0, 1, 2, 3] rfl (by decide) (c_X11_part l g H.size q_1 q_2 q_3 q_4 q_5 q_6 q_7 q_8 q_9 q_10 q_11 q_14 q_15 q_16 q_17 q_18 q_19 q_20 q_21 q_22 q_23 q_101 (xs 1)) (gV bw_698 bw_699 bw_700 bw_207 bw_77) rfl rfl (by decide +kernel) ⟨by decide, by decide⟩ (ci := 11) (q0 := 0) rfl rfl (fun _ _ _ _ _ => trivial) (fun _ _ _ => trivial) rfl rfl hl.1 (Nat.le_of_ble_eq_true rfl) dL_law_950 ⟨by decide, by decide⟩) hP hD hS hA [0, 1, 2, 3] [4, 5] rfl rfl (by decide) (by decide) (fun r_210 u H locs hw hP hD hS => ?_)
        have hP : va_P g.1 vwCl [(q_102, .inr (12, [.ref q_103, .ref q_104, .int 0, .int 0, .int 0, .int (-1), .int 0, .int 0, .int 0, .int 0, .long 0, .ref q_105, .ref q_106, .ref q_107, .ref q_108, .ref q_109, .ref q_110, .ref q_111, .ref q_112, .ref q_113, .ref q_114, .ref q_115, .ref q_116, .ref q_117, .ref q_118, .ref q_119, .ref q_120, .ref q_121, .ref q_122, .ref q_123, .ref q_124, .ref q_125, .ref q_126, .ref q_127, .ref q_128, .ref q_129, .ref q_130, .ref q_131, .ref q_132, .ref q_133, .ref q_134, .ref q_135, .ref q_136, .int 0, .int 0, .int 0, .int 0, .int 0, .int 0, .int 0, .int 0, .int 0, .ref q_137, .ref q_138, .int 0, .int 0, .ref q_139, .ref q_140, .ref q_141, .ref q_142, .ref q_143, .ref q_144, .ref q_145, .ref q_146, .ref q_147, .ref q_148, .int 0, .int 0, .int 0, .int 0, .int 0, .int 0, .int 0, .int 0, .int 0, .int 0, .int 0, .int 0, .ref q_149, .ref q_150, .ref q_151, .ref q_152, .ref q_153, .int 0, .int 0, .ref q_154, .ref q_155])), (q_105, aI g 2 z0)] H := hP
        have hD : va_D A [(q_102, .inr (12, [.ref q_103, .ref q_104, .int 0, .int 0, .int 0, .int (-1), .int 0, .int 0, .int 0, .int 0, .long 0, .ref q_105, .ref q_106, .ref q_107, .ref q_108, .ref q_109, .ref q_110, .ref q_111, .ref q_112, .ref q_113, .ref q_114, .ref q_115, .ref q_116, .ref q_117, .ref q_118, .ref q_119, .ref q_120, .ref q_121, .ref q_122, .ref q_123, .ref q_124, .ref q_125, .ref q_126, .ref q_127, .ref q_128, .ref q_129, .ref q_130, .ref q_131, .ref q_132, .ref q_133, .ref q_134, .ref q_135, .ref q_136, .int 0, .int 0, .int 0, .int 0, .int 0, .int 0, .int 0, .int 0, .int 0, .ref q_137, .ref q_138, .int 0, .int 0, .ref q_139, .ref q_140, .ref q_141, .ref q_142, .ref q_143, .ref q_144, .ref q_145, .ref q_146, .ref q_147, .ref q_148, .int 0, .int 0, .int 0, .int 0, .int 0, .int 0, .int 0, .int 0, .int 0, .int 0, .int 0, .int 0, .ref q_149, .ref q_150, .ref q_151, .ref q_152, .ref q_153, .int 0, .int 0, .ref q_154, .ref q_155])), (q_105, aI g 2 z0)] := hD
        have hw : r_210 = (-1) := hw
        subst hw
        refine lv_aload_n hx hb dL_law_953 rfl (lv_at hl 1 rfl) ?_
        refine lv_aload_n hx hb dL_law_954 rfl (lv_at hl 3 rfl) ?_
        refine lv_iload_n hx hb dL_law_955 rfl (lv_at hl 0 rfl) ?_
        refine lv_iconst (v := 1) hx hb dL_law_956 (by decide) ?_
        refine lv_iadd hx hb dL_law_957 ?_
        refine p_ti (v := 1) (by decide +kernel) ?_
        refine va_sld hx hb hXs hbl hbA hS (i := 1) (by unfold vp_in; decide) dL_law_958 ?_
        refine p_ti (v := xs 1) rfl ?_
        refine k_i (wr := []) (k_V (n := 1) ⟨hx, hb, hml, hown, hT⟩ hK hP hD [0, 1] rfl (by decide) (c_X12_part l g H.size q_102 q_103 q_104 q_105 q_106 q_107 q_108 q_109 q_110 q_111 q_112 q_113 q_114 q_115 q_116 q_117 q_118 q_119 q_120 q_121 q_122 q_123 q_124 q_125 q_126 q_127 q_128 q_129 q_130 q_131 q_132 q_133 q_134 q_135 q_136 q_137 q_138 q_139 q_140 q_141 q_142 q_143 q_144 q_145 q_146 q_147 q_148 q_149 q_150 q_151 q_152 q_153 q_154 q_155 (xs 1)) (gV bw_701 bw_702 bw_703 bw_233 bw_280) rfl rfl (by decide +kernel) ⟨by decide, by decide⟩ (ci := 12) (q0 := 0) rfl rfl (fun _ _ _ _ _ => trivial) (fun _ _ _ => trivial) rfl rfl hl.1 (Nat.le_of_ble_eq_true rfl) dL_law_959 ⟨by decide, by decide⟩) hP hD hS hA [0, 1] [] rfl rfl (by decide) (by decide) (fun r_211 u H locs hw hP hD hS => ?_)
        have hP : va_P g.1 vwCl [] H := hP
        have hD : va_D A [] := hD
        have hw : r_211 = (-1) := hw
        subst hw
        refine lv_icmp_eq (tgt := 1217) hx hb dL_law_962 (by decide) (fun _ => ?_) (fun c9 => absurd (by decide) c9)
        refine lv_iinc (v := 6) (lv' := [(3, .int 6), (2, .ref q_102), (1, .ref q_1), (0, .ref b)]) hx hb dL_law_1217 hl (k := 0) rfl (by decide) (by decide) rfl (fun ls hl => ?_)
        refine lv_goto (tgt := 18) hx hb dL_law_1220 (by decide) ?_
        refine lv_iload_n hx hb dL_law_18 rfl (lv_at hl 0 rfl) ?_
        refine lv_aload_n hx hb dL_law_19 rfl (lv_at hl 3 rfl) ?_
        refine va_slen hx hb hXs hbl hbA hS dL_law_20 ?_
        refine p_ti (v := 6) rfl ?_
        refine lv_bipush (v := 6) hx hb dL_law_21 (by decide) ?_
        refine lv_isub hx hb dL_law_23 ?_
        refine p_ti (v := 0) (by decide +kernel) ?_
        refine lv_icmp_gt (tgt := 1223) hx hb dL_law_24 (by decide) (fun _ => ?_) (fun c9 => absurd (by decide) c9)
        refine lv_iconst (v := 1) hx hb dL_law_1223 (by decide) ?_
        refine va_forget (fun q hq => by have h9 := hS.2.2 q hq; rw [hAe] at h9; exact h9) ?_
        refine W.widen (k := 600000) (n := 7302249) (by decide) (by decide) ?_
        exact lw_ret hx hb hr hlocks dL_law_1224
      · obtain rfl : x_156 = 27 := eh_157
        refine lv_tableIn (tgt := 967) hx hb dL_law_33 (by decide) (by decide) (off := 934) (by decide) (by decide) ?_
        have hP : va_P g.1 vwCl [(q_1, .inr (11, [.ref q_2, .int 0, .ref q_3, .ref q_4, .ref q_5, .ref q_6, .int 0, .int 0, .ref q_7, .int 0, .ref q_8, .ref q_9, .ref q_10, .ref q_11])), (q_11, .inr (1, [.int 0, .ref q_101])), (q_102, .inr (12, [.ref q_103, .ref q_104, .int 0, .int 0, .int 0, .int (-1), .int 0, .int 0, .int 0, .int 0, .long 0, .ref q_105, .ref q_106, .ref q_107, .ref q_108, .ref q_109, .ref q_110, .ref q_111, .ref q_112, .ref q_113, .ref q_114, .ref q_115, .ref q_116, .ref q_117, .ref q_118, .ref q_119, .ref q_120, .ref q_121, .ref q_122, .ref q_123, .ref q_124, .ref q_125, .ref q_126, .ref q_127, .ref q_128, .ref q_129, .ref q_130, .ref q_131, .ref q_132, .ref q_133, .ref q_134, .ref q_135, .ref q_136, .int 0, .int 0, .int 0, .int 0, .int 0, .int 0, .int 0, .int 0, .int 0, .ref q_137, .ref q_138, .int 0, .int 0, .ref q_139, .ref q_140, .ref q_141, .ref q_142, .ref q_143, .ref q_144, .ref q_145, .ref q_146, .ref q_147, .ref q_148, .int 0, .int 0, .int 0, .int 0, .int 0, .int 0, .int 0, .int 0, .int 0, .int 0, .int 0, .int 0, .ref q_149, .ref q_150, .ref q_151, .ref q_152, .ref q_153, .int 0, .int 0, .ref q_154, .ref q_155]))] H := hP.sub [0, 57, 58] rfl
        have hD : va_D A [(q_1, .inr (11, [.ref q_2, .int 0, .ref q_3, .ref q_4, .ref q_5, .ref q_6, .int 0, .int 0, .ref q_7, .int 0, .ref q_8, .ref q_9, .ref q_10, .ref q_11])), (q_11, .inr (1, [.int 0, .ref q_101])), (q_102, .inr (12, [.ref q_103, .ref q_104, .int 0, .int 0, .int 0, .int (-1), .int 0, .int 0, .int 0, .int 0, .long 0, .ref q_105, .ref q_106, .ref q_107, .ref q_108, .ref q_109, .ref q_110, .ref q_111, .ref q_112, .ref q_113, .ref q_114, .ref q_115, .ref q_116, .ref q_117, .ref q_118, .ref q_119, .ref q_120, .ref q_121, .ref q_122, .ref q_123, .ref q_124, .ref q_125, .ref q_126, .ref q_127, .ref q_128, .ref q_129, .ref q_130, .ref q_131, .ref q_132, .ref q_133, .ref q_134, .ref q_135, .ref q_136, .int 0, .int 0, .int 0, .int 0, .int 0, .int 0, .int 0, .int 0, .int 0, .ref q_137, .ref q_138, .int 0, .int 0, .ref q_139, .ref q_140, .ref q_141, .ref q_142, .ref q_143, .ref q_144, .ref q_145, .ref q_146, .ref q_147, .ref q_148, .int 0, .int 0, .int 0, .int 0, .int 0, .int 0, .int 0, .int 0, .int 0, .int 0, .int 0, .int 0, .ref q_149, .ref q_150, .ref q_151, .ref q_152, .ref q_153, .int 0, .int 0, .ref q_154, .ref q_155]))] := hD.sub [0, 57, 58] (by decide) rfl
        refine lv_aload_n hx hb dL_law_967 rfl (lv_at hl 2 rfl) ?_
        refine lv_aload_n hx hb dL_law_968 rfl (lv_at hl 3 rfl) ?_
        refine lv_iload_n hx hb dL_law_969 rfl (lv_at hl 0 rfl) ?_
        refine lv_iconst (v := 1) hx hb dL_law_970 (by decide) ?_
        refine lv_iadd hx hb dL_law_971 ?_
        refine p_ti (v := 1) (by decide +kernel) ?_
        refine va_sld hx hb hXs hbl hbA hS (i := 1) (by unfold vp_in; decide) dL_law_972 ?_
        refine p_ti (v := xs 1) rfl ?_
        refine k_iR (k_V (n := 1) ⟨hx, hb, hml, hown, hT⟩ hK hP hD [0, 1] rfl (by decide) (c_X11_lies l g H.size q_1 q_2 q_3 q_4 q_5 q_6 q_7 q_8 q_9 q_10 q_11 q_101 (xs 1)) (gV bw_704 bw_705 bw_706 bw_207 bw_58) rfl rfl (by decide +kernel) ⟨by decide, by decide⟩ (ci := 11) (q0 := 0) rfl rfl (fun _ _ _ _ _ => trivial) (fun _ _ _ => trivial) rfl rfl hl.1 (Nat.le_of_ble_eq_true rfl) dL_law_973 ⟨by decide, by decide⟩) hP hS hA (fun r_212 _ H locs hw hP hS => ?_)
        have hw : r_212 = (-1) := hw
        subst hw
        refine lv_aload_n hx hb dL_law_976 rfl (lv_at hl 1 rfl) ?_
        refine lv_aload_n hx hb dL_law_977 rfl (lv_at hl 3 rfl) ?_
        refine lv_iload_n hx hb dL_law_978 rfl (lv_at hl 0 rfl) ?_
        refine lv_iconst (v := 1) hx hb dL_law_979 (by decide) ?_
        refine lv_iadd hx hb dL_law_980 ?_
        refine p_ti (v := 1) (by decide +kernel) ?_
        refine va_sld hx hb hXs hbl hbA hS (i := 1) (by unfold vp_in; decide) dL_law_981 ?_
        refine p_ti (v := xs 1) rfl ?_
        refine k_iR (k_V (n := 1) ⟨hx, hb, hml, hown, hT⟩ hK hP hD [2] rfl (by decide) (c_X12_lies l g H.size q_102 q_103 q_104 q_105 q_106 q_107 q_108 q_109 q_110 q_111 q_112 q_113 q_114 q_115 q_116 q_117 q_118 q_119 q_120 q_121 q_122 q_123 q_124 q_125 q_126 q_127 q_128 q_129 q_130 q_131 q_132 q_133 q_134 q_135 q_136 q_137 q_138 q_139 q_140 q_141 q_142 q_143 q_144 q_145 q_146 q_147 q_148 q_149 q_150 q_151 q_152 q_153 q_154 q_155 (xs 1)) (gV bw_707 bw_708 bw_709 bw_233 bw_270) rfl rfl (by decide +kernel) ⟨by decide, by decide⟩ (ci := 12) (q0 := 0) rfl rfl (fun _ _ _ _ _ => trivial) (fun _ _ _ => trivial) rfl rfl hl.1 (Nat.le_of_ble_eq_true rfl) dL_law_982 ⟨by decide, by decide⟩) hP hS hA (fun r_213 _ H locs hw hP hS => ?_)
        have hw : r_213 = (-1) := hw
        subst hw
        refine lv_icmp_eq (tgt := 1217) hx hb dL_law_985 (by decide) (fun _ => ?_) (fun c9 => absurd (by decide) c9)
        refine lv_iinc (v := 6) (lv' := [(3, .int 6), (2, .ref q_102), (1, .ref q_1), (0, .ref b)]) hx hb dL_law_1217 hl (k := 0) rfl (by decide) (by decide) rfl (fun ls hl => ?_)
        refine lv_goto (tgt := 18) hx hb dL_law_1220 (by decide) ?_
        refine lv_iload_n hx hb dL_law_18 rfl (lv_at hl 0 rfl) ?_
        refine lv_aload_n hx hb dL_law_19 rfl (lv_at hl 3 rfl) ?_
        refine va_slen hx hb hXs hbl hbA hS dL_law_20 ?_
        refine p_ti (v := 6) rfl ?_
        refine lv_bipush (v := 6) hx hb dL_law_21 (by decide) ?_
        refine lv_isub hx hb dL_law_23 ?_
        refine p_ti (v := 0) (by decide +kernel) ?_
        refine lv_icmp_gt (tgt := 1223) hx hb dL_law_24 (by decide) (fun _ => ?_) (fun c9 => absurd (by decide) c9)
        refine lv_iconst (v := 1) hx hb dL_law_1223 (by decide) ?_
        refine va_forget (fun q hq => by have h9 := hS.2.2 q hq; rw [hAe] at h9; exact h9) ?_
        refine W.widen (k := 600000) (n := 7302249) (by decide) (by decide) ?_
        exact lw_ret hx hb hr hlocks dL_law_1224
      · obtain rfl : x_156 = 28 := eh_157
        refine lv_tableIn (tgt := 990) hx hb dL_law_33 (by decide) (by decide) (off := 957) (by decide) (by decide) ?_
        have hP : va_P g.1 vwCl [(q_1, .inr (11, [.ref q_2, .int 0, .ref q_3, .ref q_4, .ref q_5, .ref q_6, .int 0, .int 0, .ref q_7, .int 0, .ref q_8, .ref q_9, .ref q_10, .ref q_11])), (q_6, aO g 41 (va_up (va_up f_58 0 (some q_57)) 1 (some q_56))), (q_57, .inr (9, [.int 0, .int 0, .int 0, .int 0, .int 0, .int 0, .int 0, .ref q_59, .ref q_60, .ref q_61, .ref q_62, .ref q_63, .ref q_64, .ref q_65])), (q_102, .inr (12, [.ref q_103, .ref q_104, .int 0, .int 0, .int 0, .int (-1), .int 0, .int 0, .int 0, .int 0, .long 0, .ref q_105, .ref q_106, .ref q_107, .ref q_108, .ref q_109, .ref q_110, .ref q_111, .ref q_112, .ref q_113, .ref q_114, .ref q_115, .ref q_116, .ref q_117, .ref q_118, .ref q_119, .ref q_120, .ref q_121, .ref q_122, .ref q_123, .ref q_124, .ref q_125, .ref q_126, .ref q_127, .ref q_128, .ref q_129, .ref q_130, .ref q_131, .ref q_132, .ref q_133, .ref q_134, .ref q_135, .ref q_136, .int 0, .int 0, .int 0, .int 0, .int 0, .int 0, .int 0, .int 0, .int 0, .ref q_137, .ref q_138, .int 0, .int 0, .ref q_139, .ref q_140, .ref q_141, .ref q_142, .ref q_143, .ref q_144, .ref q_145, .ref q_146, .ref q_147, .ref q_148, .int 0, .int 0, .int 0, .int 0, .int 0, .int 0, .int 0, .int 0, .int 0, .int 0, .int 0, .int 0, .ref q_149, .ref q_150, .ref q_151, .ref q_152, .ref q_153, .int 0, .int 0, .ref q_154, .ref q_155])), (q_137, aI g 374 z0)] H := hP.sub [0, 14, 15, 58, 69] rfl
        have hD : va_D A [(q_1, .inr (11, [.ref q_2, .int 0, .ref q_3, .ref q_4, .ref q_5, .ref q_6, .int 0, .int 0, .ref q_7, .int 0, .ref q_8, .ref q_9, .ref q_10, .ref q_11])), (q_6, aO g 41 (va_up (va_up f_58 0 (some q_57)) 1 (some q_56))), (q_57, .inr (9, [.int 0, .int 0, .int 0, .int 0, .int 0, .int 0, .int 0, .ref q_59, .ref q_60, .ref q_61, .ref q_62, .ref q_63, .ref q_64, .ref q_65])), (q_102, .inr (12, [.ref q_103, .ref q_104, .int 0, .int 0, .int 0, .int (-1), .int 0, .int 0, .int 0, .int 0, .long 0, .ref q_105, .ref q_106, .ref q_107, .ref q_108, .ref q_109, .ref q_110, .ref q_111, .ref q_112, .ref q_113, .ref q_114, .ref q_115, .ref q_116, .ref q_117, .ref q_118, .ref q_119, .ref q_120, .ref q_121, .ref q_122, .ref q_123, .ref q_124, .ref q_125, .ref q_126, .ref q_127, .ref q_128, .ref q_129, .ref q_130, .ref q_131, .ref q_132, .ref q_133, .ref q_134, .ref q_135, .ref q_136, .int 0, .int 0, .int 0, .int 0, .int 0, .int 0, .int 0, .int 0, .int 0, .ref q_137, .ref q_138, .int 0, .int 0, .ref q_139, .ref q_140, .ref q_141, .ref q_142, .ref q_143, .ref q_144, .ref q_145, .ref q_146, .ref q_147, .ref q_148, .int 0, .int 0, .int 0, .int 0, .int 0, .int 0, .int 0, .int 0, .int 0, .int 0, .int 0, .int 0, .ref q_149, .ref q_150, .ref q_151, .ref q_152, .ref q_153, .int 0, .int 0, .ref q_154, .ref q_155])), (q_137, aI g 374 z0)] := hD.sub [0, 14, 15, 58, 69] (by decide) rfl
        refine lv_aload_n hx hb dL_law_990 rfl (lv_at hl 2 rfl) ?_
        refine lv_aload_n hx hb dL_law_991 rfl (lv_at hl 3 rfl) ?_
        refine lv_iload_n hx hb dL_law_992 rfl (lv_at hl 0 rfl) ?_
        refine lv_iconst (v := 1) hx hb dL_law_993 (by decide) ?_
        refine lv_iadd hx hb dL_law_994 ?_
        refine p_ti (v := 1) (by decide +kernel) ?_
        refine va_sld hx hb hXs hbl hbA hS (i := 1) (by unfold vp_in; decide) dL_law_995 ?_
        refine p_ti (v := xs 1) rfl ?_
        refine lv_aload_n hx hb dL_law_996 rfl (lv_at hl 3 rfl) ?_
        refine lv_iload_n hx hb dL_law_997 rfl (lv_at hl 0 rfl) ?_
        refine lv_iconst (v := 2) hx hb dL_law_998 (by decide) ?_
        refine lv_iadd hx hb dL_law_999 ?_
        refine p_ti (v := 2) (by decide +kernel) ?_
        refine va_sld hx hb hXs hbl hbA hS (i := 2) (by unfold vp_in; decide) dL_law_1000 ?_
        refine p_ti (v := xs 2) rfl ?_
        refine k_iR (k_V (n := 2) ⟨hx, hb, hml, hown, hT⟩ hK hP hD [0, 1, 2] rfl (by decide) (c_X11_log l g H.size q_1 q_2 q_3 q_4 q_5 q_6 q_7 q_8 q_9 q_10 q_11 q_56 q_57 q_59 q_60 q_61 q_62 q_63 q_64 q_65 f_58 (xs 1) (xs 2)) (gV bw_710 bw_711 bw_712 bw_207 bw_60) rfl rfl (by decide +kernel) ⟨by decide, by decide⟩ (ci := 11) (q0 := 0) rfl rfl (fun _ _ _ _ _ => trivial) (fun _ _ _ => trivial) rfl rfl hl.1 (Nat.le_of_ble_eq_true rfl) dL_law_1001 ⟨by decide, by decide⟩) hP hS hA (fun r_214 _ H locs hw hP hS => ?_)
        have hw : r_214 = (-1) := hw
        subst hw
        refine lv_aload_n hx hb dL_law_1004 rfl (lv_at hl 1 rfl) ?_
        refine lv_aload_n hx hb dL_law_1005 rfl (lv_at hl 3 rfl) ?_
        refine lv_iload_n hx hb dL_law_1006 rfl (lv_at hl 0 rfl) ?_
        refine lv_iconst (v := 1) hx hb dL_law_1007 (by decide) ?_
        refine lv_iadd hx hb dL_law_1008 ?_
        refine p_ti (v := 1) (by decide +kernel) ?_
        refine va_sld hx hb hXs hbl hbA hS (i := 1) (by unfold vp_in; decide) dL_law_1009 ?_
        refine p_ti (v := xs 1) rfl ?_
        refine lv_aload_n hx hb dL_law_1010 rfl (lv_at hl 3 rfl) ?_
        refine lv_iload_n hx hb dL_law_1011 rfl (lv_at hl 0 rfl) ?_
        refine lv_iconst (v := 2) hx hb dL_law_1012 (by decide) ?_
        refine lv_iadd hx hb dL_law_1013 ?_
        refine p_ti (v := 2) (by decide +kernel) ?_
        refine va_sld hx hb hXs hbl hbA hS (i := 2) (by unfold vp_in; decide) dL_law_1014 ?_
        refine p_ti (v := xs 2) rfl ?_
        refine k_iR (k_V (n := 2) ⟨hx, hb, hml, hown, hT⟩ hK hP hD [3, 4] rfl (by decide) (c_X12_log l g H.size q_102 q_103 q_104 q_105 q_106 q_107 q_108 q_109 q_110 q_111 q_112 q_113 q_114 q_115 q_116 q_117 q_118 q_119 q_120 q_121 q_122 q_123 q_124 q_125 q_126 q_127 q_128 q_129 q_130 q_131 q_132 q_133 q_134 q_135 q_136 q_137 q_138 q_139 q_140 q_141 q_142 q_143 q_144 q_145 q_146 q_147 q_148 q_149 q_150 q_151 q_152 q_153 q_154 q_155 (xs 1) (xs 2)) (gV bw_713 bw_714 bw_715 bw_233 bw_271) rfl rfl (by decide +kernel) ⟨by decide, by decide⟩ (ci := 12) (q0 := 0) rfl rfl (fun _ _ _ _ _ => trivial) (fun _ _ _ => trivial) rfl rfl hl.1 (Nat.le_of_ble_eq_true rfl) dL_law_1015 ⟨by decide, by decide⟩) hP hS hA (fun r_215 _ H locs hw hP hS => ?_)
        have hw : r_215 = (-1) := hw
        subst hw
        refine lv_icmp_eq (tgt := 1217) hx hb dL_law_1018 (by decide) (fun _ => ?_) (fun c9 => absurd (by decide) c9)
        refine lv_iinc (v := 6) (lv' := [(3, .int 6), (2, .ref q_102), (1, .ref q_1), (0, .ref b)]) hx hb dL_law_1217 hl (k := 0) rfl (by decide) (by decide) rfl (fun ls hl => ?_)
        refine lv_goto (tgt := 18) hx hb dL_law_1220 (by decide) ?_
        refine lv_iload_n hx hb dL_law_18 rfl (lv_at hl 0 rfl) ?_
        refine lv_aload_n hx hb dL_law_19 rfl (lv_at hl 3 rfl) ?_
        refine va_slen hx hb hXs hbl hbA hS dL_law_20 ?_
        refine p_ti (v := 6) rfl ?_
        refine lv_bipush (v := 6) hx hb dL_law_21 (by decide) ?_
        refine lv_isub hx hb dL_law_23 ?_
        refine p_ti (v := 0) (by decide +kernel) ?_
        refine lv_icmp_gt (tgt := 1223) hx hb dL_law_24 (by decide) (fun _ => ?_) (fun c9 => absurd (by decide) c9)
        refine lv_iconst (v := 1) hx hb dL_law_1223 (by decide) ?_
        refine va_forget (fun q hq => by have h9 := hS.2.2 q hq; rw [hAe] at h9; exact h9) ?_
        refine W.widen (k := 600000) (n := 7302249) (by decide) (by decide) ?_
        exact lw_ret hx hb hr hlocks dL_law_1224
      · obtain rfl : x_156 = 29 := eh_157
        refine lv_tableIn (tgt := 1023) hx hb dL_law_33 (by decide) (by decide) (off := 990) (by decide) (by decide) ?_
        have hP : va_P g.1 vwCl [(q_1, .inr (11, [.ref q_2, .int 0, .ref q_3, .ref q_4, .ref q_5, .ref q_6, .int 0, .int 0, .ref q_7, .int 0, .ref q_8, .ref q_9, .ref q_10, .ref q_11])), (q_6, aO g 41 (va_up (va_up f_58 0 (some q_57)) 1 (some q_56))), (q_57, .inr (9, [.int 0, .int 0, .int 0, .int 0, .int 0, .int 0, .int 0, .ref q_59, .ref q_60, .ref q_61, .ref q_62, .ref q_63, .ref q_64, .ref q_65])), (q_102, .inr (12, [.ref q_103, .ref q_104, .int 0, .int 0, .int 0, .int (-1), .int 0, .int 0, .int 0, .int 0, .long 0, .ref q_105, .ref q_106, .ref q_107, .ref q_108, .ref q_109, .ref q_110, .ref q_111, .ref q_112, .ref q_113, .ref q_114, .ref q_115, .ref q_116, .ref q_117, .ref q_118, .ref q_119, .ref q_120, .ref q_121, .ref q_122, .ref q_123, .ref q_124, .ref q_125, .ref q_126, .ref q_127, .ref q_128, .ref q_129, .ref q_130, .ref q_131, .ref q_132, .ref q_133, .ref q_134, .ref q_135, .ref q_136, .int 0, .int 0, .int 0, .int 0, .int 0, .int 0, .int 0, .int 0, .int 0, .ref q_137, .ref q_138, .int 0, .int 0, .ref q_139, .ref q_140, .ref q_141, .ref q_142, .ref q_143, .ref q_144, .ref q_145, .ref q_146, .ref q_147, .ref q_148, .int 0, .int 0, .int 0, .int 0, .int 0, .int 0, .int 0, .int 0, .int 0, .int 0, .int 0, .int 0, .ref q_149, .ref q_150, .ref q_151, .ref q_152, .ref q_153, .int 0, .int 0, .ref q_154, .ref q_155])), (q_137, aI g 374 z0)] H := hP.sub [0, 14, 15, 58, 69] rfl
        have hD : va_D A [(q_1, .inr (11, [.ref q_2, .int 0, .ref q_3, .ref q_4, .ref q_5, .ref q_6, .int 0, .int 0, .ref q_7, .int 0, .ref q_8, .ref q_9, .ref q_10, .ref q_11])), (q_6, aO g 41 (va_up (va_up f_58 0 (some q_57)) 1 (some q_56))), (q_57, .inr (9, [.int 0, .int 0, .int 0, .int 0, .int 0, .int 0, .int 0, .ref q_59, .ref q_60, .ref q_61, .ref q_62, .ref q_63, .ref q_64, .ref q_65])), (q_102, .inr (12, [.ref q_103, .ref q_104, .int 0, .int 0, .int 0, .int (-1), .int 0, .int 0, .int 0, .int 0, .long 0, .ref q_105, .ref q_106, .ref q_107, .ref q_108, .ref q_109, .ref q_110, .ref q_111, .ref q_112, .ref q_113, .ref q_114, .ref q_115, .ref q_116, .ref q_117, .ref q_118, .ref q_119, .ref q_120, .ref q_121, .ref q_122, .ref q_123, .ref q_124, .ref q_125, .ref q_126, .ref q_127, .ref q_128, .ref q_129, .ref q_130, .ref q_131, .ref q_132, .ref q_133, .ref q_134, .ref q_135, .ref q_136, .int 0, .int 0, .int 0, .int 0, .int 0, .int 0, .int 0, .int 0, .int 0, .ref q_137, .ref q_138, .int 0, .int 0, .ref q_139, .ref q_140, .ref q_141, .ref q_142, .ref q_143, .ref q_144, .ref q_145, .ref q_146, .ref q_147, .ref q_148, .int 0, .int 0, .int 0, .int 0, .int 0, .int 0, .int 0, .int 0, .int 0, .int 0, .int 0, .int 0, .ref q_149, .ref q_150, .ref q_151, .ref q_152, .ref q_153, .int 0, .int 0, .ref q_154, .ref q_155])), (q_137, aI g 374 z0)] := hD.sub [0, 14, 15, 58, 69] (by decide) rfl
        refine lv_aload_n hx hb dL_law_1023 rfl (lv_at hl 2 rfl) ?_
        refine lv_aload_n hx hb dL_law_1024 rfl (lv_at hl 3 rfl) ?_
        refine lv_iload_n hx hb dL_law_1025 rfl (lv_at hl 0 rfl) ?_
        refine lv_iconst (v := 1) hx hb dL_law_1026 (by decide) ?_
        refine lv_iadd hx hb dL_law_1027 ?_
        refine p_ti (v := 1) (by decide +kernel) ?_
        refine va_sld hx hb hXs hbl hbA hS (i := 1) (by unfold vp_in; decide) dL_law_1028 ?_
        refine p_ti (v := xs 1) rfl ?_
        refine k_iR (k_V (n := 1) ⟨hx, hb, hml, hown, hT⟩ hK hP hD [0, 1, 2] rfl (by decide) (c_X11_began l g H.size q_1 q_2 q_3 q_4 q_5 q_6 q_7 q_8 q_9 q_10 q_11 q_56 q_57 q_59 q_60 q_61 q_62 q_63 q_64 q_65 f_58 (xs 1)) (gV bw_716 bw_717 bw_718 bw_207 bw_61) rfl rfl (by decide +kernel) ⟨by decide, by decide⟩ (ci := 11) (q0 := 0) rfl rfl (fun _ _ _ _ _ => trivial) (fun _ _ _ => trivial) rfl rfl hl.1 (Nat.le_of_ble_eq_true rfl) dL_law_1029 ⟨by decide, by decide⟩) hP hS hA (fun r_216 _ H locs hw hP hS => ?_)
        have hw : r_216 = (-2) := hw
        subst hw
        refine lv_aload_n hx hb dL_law_1032 rfl (lv_at hl 1 rfl) ?_
        refine lv_aload_n hx hb dL_law_1033 rfl (lv_at hl 3 rfl) ?_
        refine lv_iload_n hx hb dL_law_1034 rfl (lv_at hl 0 rfl) ?_
        refine lv_iconst (v := 1) hx hb dL_law_1035 (by decide) ?_
        refine lv_iadd hx hb dL_law_1036 ?_
        refine p_ti (v := 1) (by decide +kernel) ?_
        refine va_sld hx hb hXs hbl hbA hS (i := 1) (by unfold vp_in; decide) dL_law_1037 ?_
        refine p_ti (v := xs 1) rfl ?_
        refine k_iR (k_V (n := 1) ⟨hx, hb, hml, hown, hT⟩ hK hP hD [3, 4] rfl (by decide) (c_X12_began l g H.size q_102 q_103 q_104 q_105 q_106 q_107 q_108 q_109 q_110 q_111 q_112 q_113 q_114 q_115 q_116 q_117 q_118 q_119 q_120 q_121 q_122 q_123 q_124 q_125 q_126 q_127 q_128 q_129 q_130 q_131 q_132 q_133 q_134 q_135 q_136 q_137 q_138 q_139 q_140 q_141 q_142 q_143 q_144 q_145 q_146 q_147 q_148 q_149 q_150 q_151 q_152 q_153 q_154 q_155 (xs 1)) (gV bw_719 bw_720 bw_721 bw_233 bw_272) rfl rfl (by decide +kernel) ⟨by decide, by decide⟩ (ci := 12) (q0 := 0) rfl rfl (fun _ _ _ _ _ => trivial) (fun _ _ _ => trivial) rfl rfl hl.1 (Nat.le_of_ble_eq_true rfl) dL_law_1038 ⟨by decide, by decide⟩) hP hS hA (fun r_217 _ H locs hw hP hS => ?_)
        have hw : r_217 = (-2) := hw
        subst hw
        refine lv_icmp_eq (tgt := 1217) hx hb dL_law_1041 (by decide) (fun _ => ?_) (fun c9 => absurd (by decide) c9)
        refine lv_iinc (v := 6) (lv' := [(3, .int 6), (2, .ref q_102), (1, .ref q_1), (0, .ref b)]) hx hb dL_law_1217 hl (k := 0) rfl (by decide) (by decide) rfl (fun ls hl => ?_)
        refine lv_goto (tgt := 18) hx hb dL_law_1220 (by decide) ?_
        refine lv_iload_n hx hb dL_law_18 rfl (lv_at hl 0 rfl) ?_
        refine lv_aload_n hx hb dL_law_19 rfl (lv_at hl 3 rfl) ?_
        refine va_slen hx hb hXs hbl hbA hS dL_law_20 ?_
        refine p_ti (v := 6) rfl ?_
        refine lv_bipush (v := 6) hx hb dL_law_21 (by decide) ?_
        refine lv_isub hx hb dL_law_23 ?_
        refine p_ti (v := 0) (by decide +kernel) ?_
        refine lv_icmp_gt (tgt := 1223) hx hb dL_law_24 (by decide) (fun _ => ?_) (fun c9 => absurd (by decide) c9)
        refine lv_iconst (v := 1) hx hb dL_law_1223 (by decide) ?_
        refine va_forget (fun q hq => by have h9 := hS.2.2 q hq; rw [hAe] at h9; exact h9) ?_
        refine W.widen (k := 600000) (n := 7302249) (by decide) (by decide) ?_
        exact lw_ret hx hb hr hlocks dL_law_1224
      · obtain rfl : x_156 = 30 := eh_157
        refine lv_tableIn (tgt := 1046) hx hb dL_law_33 (by decide) (by decide) (off := 1013) (by decide) (by decide) ?_
        have hP : va_P g.1 vwCl [(q_1, .inr (11, [.ref q_2, .int 0, .ref q_3, .ref q_4, .ref q_5, .ref q_6, .int 0, .int 0, .ref q_7, .int 0, .ref q_8, .ref q_9, .ref q_10, .ref q_11])), (q_4, .inr (2, [.ref q_14, .ref q_15, .ref q_16, .int 0, .ref q_17, .ref q_18, .int 9, .int 0, .ref q_19])), (q_16, .inr (6, [.int 0, .ref q_28, .ref q_29, .ref q_30, .ref q_31, .ref q_32, .ref q_33, .ref q_34])), (q_102, .inr (12, [.ref q_103, .ref q_104, .int 0, .int 0, .int 0, .int (-1), .int 0, .int 0, .int 0, .int 0, .long 0, .ref q_105, .ref q_106, .ref q_107, .ref q_108, .ref q_109, .ref q_110, .ref q_111, .ref q_112, .ref q_113, .ref q_114, .ref q_115, .ref q_116, .ref q_117, .ref q_118, .ref q_119, .ref q_120, .ref q_121, .ref q_122, .ref q_123, .ref q_124, .ref q_125, .ref q_126, .ref q_127, .ref q_128, .ref q_129, .ref q_130, .ref q_131, .ref q_132, .ref q_133, .ref q_134, .ref q_135, .ref q_136, .int 0, .int 0, .int 0, .int 0, .int 0, .int 0, .int 0, .int 0, .int 0, .ref q_137, .ref q_138, .int 0, .int 0, .ref q_139, .ref q_140, .ref q_141, .ref q_142, .ref q_143, .ref q_144, .ref q_145, .ref q_146, .ref q_147, .ref q_148, .int 0, .int 0, .int 0, .int 0, .int 0, .int 0, .int 0, .int 0, .int 0, .int 0, .int 0, .int 0, .ref q_149, .ref q_150, .ref q_151, .ref q_152, .ref q_153, .int 0, .int 0, .ref q_154, .ref q_155])), (q_107, aI g 2 z0)] H := hP.sub [0, 4, 7, 58, 62] rfl
        have hD : va_D A [(q_1, .inr (11, [.ref q_2, .int 0, .ref q_3, .ref q_4, .ref q_5, .ref q_6, .int 0, .int 0, .ref q_7, .int 0, .ref q_8, .ref q_9, .ref q_10, .ref q_11])), (q_4, .inr (2, [.ref q_14, .ref q_15, .ref q_16, .int 0, .ref q_17, .ref q_18, .int 9, .int 0, .ref q_19])), (q_16, .inr (6, [.int 0, .ref q_28, .ref q_29, .ref q_30, .ref q_31, .ref q_32, .ref q_33, .ref q_34])), (q_102, .inr (12, [.ref q_103, .ref q_104, .int 0, .int 0, .int 0, .int (-1), .int 0, .int 0, .int 0, .int 0, .long 0, .ref q_105, .ref q_106, .ref q_107, .ref q_108, .ref q_109, .ref q_110, .ref q_111, .ref q_112, .ref q_113, .ref q_114, .ref q_115, .ref q_116, .ref q_117, .ref q_118, .ref q_119, .ref q_120, .ref q_121, .ref q_122, .ref q_123, .ref q_124, .ref q_125, .ref q_126, .ref q_127, .ref q_128, .ref q_129, .ref q_130, .ref q_131, .ref q_132, .ref q_133, .ref q_134, .ref q_135, .ref q_136, .int 0, .int 0, .int 0, .int 0, .int 0, .int 0, .int 0, .int 0, .int 0, .ref q_137, .ref q_138, .int 0, .int 0, .ref q_139, .ref q_140, .ref q_141, .ref q_142, .ref q_143, .ref q_144, .ref q_145, .ref q_146, .ref q_147, .ref q_148, .int 0, .int 0, .int 0, .int 0, .int 0, .int 0, .int 0, .int 0, .int 0, .int 0, .int 0, .int 0, .ref q_149, .ref q_150, .ref q_151, .ref q_152, .ref q_153, .int 0, .int 0, .ref q_154, .ref q_155])), (q_107, aI g 2 z0)] := hD.sub [0, 4, 7, 58, 62] (by decide) rfl
        refine lv_aload_n hx hb dL_law_1046 rfl (lv_at hl 2 rfl) ?_
        refine lv_aload_n hx hb dL_law_1047 rfl (lv_at hl 3 rfl) ?_
        refine lv_iload_n hx hb dL_law_1048 rfl (lv_at hl 0 rfl) ?_
        refine lv_iconst (v := 1) hx hb dL_law_1049 (by decide) ?_
        refine lv_iadd hx hb dL_law_1050 ?_
        refine p_ti (v := 1) (by decide +kernel) ?_
        refine va_sld hx hb hXs hbl hbA hS (i := 1) (by unfold vp_in; decide) dL_law_1051 ?_
        refine p_ti (v := xs 1) rfl ?_
        refine lv_aload_n hx hb dL_law_1052 rfl (lv_at hl 3 rfl) ?_
        refine lv_iload_n hx hb dL_law_1053 rfl (lv_at hl 0 rfl) ?_
        refine lv_iconst (v := 2) hx hb dL_law_1054 (by decide) ?_
        refine lv_iadd hx hb dL_law_1055 ?_
        refine p_ti (v := 2) (by decide +kernel) ?_
        refine va_sld hx hb hXs hbl hbA hS (i := 2) (by unfold vp_in; decide) dL_law_1056 ?_
        refine p_ti (v := xs 2) rfl ?_
        refine k_iR (k_V (n := 2) ⟨hx, hb, hml, hown, hT⟩ hK hP hD [0, 1, 2] rfl (by decide) (c_X11_sight l g H.size q_1 q_2 q_3 q_4 q_5 q_6 q_7 q_8 q_9 q_10 q_11 q_14 q_15 q_16 q_17 q_18 q_19 q_28 q_29 q_30 q_31 q_32 q_33 q_34 (xs 1) (xs 2)) (gV bw_722 bw_723 bw_724 bw_207 bw_62) rfl rfl (by decide +kernel) ⟨by decide, by decide⟩ (ci := 11) (q0 := 0) rfl rfl (fun _ _ _ _ _ => trivial) (fun _ _ _ => trivial) rfl rfl hl.1 (Nat.le_of_ble_eq_true rfl) dL_law_1057 ⟨by decide, by decide⟩) hP hS hA (fun r_218 _ H locs hw hP hS => ?_)
        have hw : r_218 = (-1) := hw
        subst hw
        refine lv_aload_n hx hb dL_law_1060 rfl (lv_at hl 1 rfl) ?_
        refine lv_aload_n hx hb dL_law_1061 rfl (lv_at hl 3 rfl) ?_
        refine lv_iload_n hx hb dL_law_1062 rfl (lv_at hl 0 rfl) ?_
        refine lv_iconst (v := 1) hx hb dL_law_1063 (by decide) ?_
        refine lv_iadd hx hb dL_law_1064 ?_
        refine p_ti (v := 1) (by decide +kernel) ?_
        refine va_sld hx hb hXs hbl hbA hS (i := 1) (by unfold vp_in; decide) dL_law_1065 ?_
        refine p_ti (v := xs 1) rfl ?_
        refine lv_aload_n hx hb dL_law_1066 rfl (lv_at hl 3 rfl) ?_
        refine lv_iload_n hx hb dL_law_1067 rfl (lv_at hl 0 rfl) ?_
        refine lv_iconst (v := 2) hx hb dL_law_1068 (by decide) ?_
        refine lv_iadd hx hb dL_law_1069 ?_
        refine p_ti (v := 2) (by decide +kernel) ?_
        refine va_sld hx hb hXs hbl hbA hS (i := 2) (by unfold vp_in; decide) dL_law_1070 ?_
        refine p_ti (v := xs 2) rfl ?_
        refine k_iR (k_V (n := 2) ⟨hx, hb, hml, hown, hT⟩ hK hP hD [3, 4] rfl (by decide) (c_X12_sight l g H.size q_102 q_103 q_104 q_105 q_106 q_107 q_108 q_109 q_110 q_111 q_112 q_113 q_114 q_115 q_116 q_117 q_118 q_119 q_120 q_121 q_122 q_123 q_124 q_125 q_126 q_127 q_128 q_129 q_130 q_131 q_132 q_133 q_134 q_135 q_136 q_137 q_138 q_139 q_140 q_141 q_142 q_143 q_144 q_145 q_146 q_147 q_148 q_149 q_150 q_151 q_152 q_153 q_154 q_155 (xs 1) (xs 2)) (gV bw_725 bw_726 bw_727 bw_233 bw_273) rfl rfl (by decide +kernel) ⟨by decide, by decide⟩ (ci := 12) (q0 := 0) rfl rfl (fun _ _ _ _ _ => trivial) (fun _ _ _ => trivial) rfl rfl hl.1 (Nat.le_of_ble_eq_true rfl) dL_law_1071 ⟨by decide, by decide⟩) hP hS hA (fun r_219 _ H locs hw hP hS => ?_)
        have hw : r_219 = (-1) := hw
        subst hw
        refine lv_icmp_eq (tgt := 1217) hx hb dL_law_1074 (by decide) (fun _ => ?_) (fun c9 => absurd (by decide) c9)
        refine lv_iinc (v := 6) (lv' := [(3, .int 6), (2, .ref q_102), (1, .ref q_1), (0, .ref b)]) hx hb dL_law_1217 hl (k := 0) rfl (by decide) (by decide) rfl (fun ls hl => ?_)
        refine lv_goto (tgt := 18) hx hb dL_law_1220 (by decide) ?_
        refine lv_iload_n hx hb dL_law_18 rfl (lv_at hl 0 rfl) ?_
        refine lv_aload_n hx hb dL_law_19 rfl (lv_at hl 3 rfl) ?_
        refine va_slen hx hb hXs hbl hbA hS dL_law_20 ?_
        refine p_ti (v := 6) rfl ?_
        refine lv_bipush (v := 6) hx hb dL_law_21 (by decide) ?_
        refine lv_isub hx hb dL_law_23 ?_
        refine p_ti (v := 0) (by decide +kernel) ?_
        refine lv_icmp_gt (tgt := 1223) hx hb dL_law_24 (by decide) (fun _ => ?_) (fun c9 => absurd (by decide) c9)
        refine lv_iconst (v := 1) hx hb dL_law_1223 (by decide) ?_
        refine va_forget (fun q hq => by have h9 := hS.2.2 q hq; rw [hAe] at h9; exact h9) ?_
        refine W.widen (k := 600000) (n := 7302249) (by decide) (by decide) ?_
        exact lw_ret hx hb hr hlocks dL_law_1224
      · obtain rfl : x_156 = 31 := eh_157
        refine lv_tableIn (tgt := 1079) hx hb dL_law_33 (by decide) (by decide) (off := 1046) (by decide) (by decide) ?_
        have hP : va_P g.1 vwCl [(q_1, .inr (11, [.ref q_2, .int 0, .ref q_3, .ref q_4, .ref q_5, .ref q_6, .int 0, .int 0, .ref q_7, .int 0, .ref q_8, .ref q_9, .ref q_10, .ref q_11])), (q_9, .inr (8, [.int 0, .int 0, .ref q_97, .ref q_98, .ref q_99, .ref q_100])), (q_102, .inr (12, [.ref q_103, .ref q_104, .int 0, .int 0, .int 0, .int (-1), .int 0, .int 0, .int 0, .int 0, .long 0, .ref q_105, .ref q_106, .ref q_107, .ref q_108, .ref q_109, .ref q_110, .ref q_111, .ref q_112, .ref q_113, .ref q_114, .ref q_115, .ref q_116, .ref q_117, .ref q_118, .ref q_119, .ref q_120, .ref q_121, .ref q_122, .ref q_123, .ref q_124, .ref q_125, .ref q_126, .ref q_127, .ref q_128, .ref q_129, .ref q_130, .ref q_131, .ref q_132, .ref q_133, .ref q_134, .ref q_135, .ref q_136, .int 0, .int 0, .int 0, .int 0, .int 0, .int 0, .int 0, .int 0, .int 0, .ref q_137, .ref q_138, .int 0, .int 0, .ref q_139, .ref q_140, .ref q_141, .ref q_142, .ref q_143, .ref q_144, .ref q_145, .ref q_146, .ref q_147, .ref q_148, .int 0, .int 0, .int 0, .int 0, .int 0, .int 0, .int 0, .int 0, .int 0, .int 0, .int 0, .int 0, .ref q_149, .ref q_150, .ref q_151, .ref q_152, .ref q_153, .int 0, .int 0, .ref q_154, .ref q_155]))] H := hP.sub [0, 56, 58] rfl
        have hD : va_D A [(q_1, .inr (11, [.ref q_2, .int 0, .ref q_3, .ref q_4, .ref q_5, .ref q_6, .int 0, .int 0, .ref q_7, .int 0, .ref q_8, .ref q_9, .ref q_10, .ref q_11])), (q_9, .inr (8, [.int 0, .int 0, .ref q_97, .ref q_98, .ref q_99, .ref q_100])), (q_102, .inr (12, [.ref q_103, .ref q_104, .int 0, .int 0, .int 0, .int (-1), .int 0, .int 0, .int 0, .int 0, .long 0, .ref q_105, .ref q_106, .ref q_107, .ref q_108, .ref q_109, .ref q_110, .ref q_111, .ref q_112, .ref q_113, .ref q_114, .ref q_115, .ref q_116, .ref q_117, .ref q_118, .ref q_119, .ref q_120, .ref q_121, .ref q_122, .ref q_123, .ref q_124, .ref q_125, .ref q_126, .ref q_127, .ref q_128, .ref q_129, .ref q_130, .ref q_131, .ref q_132, .ref q_133, .ref q_134, .ref q_135, .ref q_136, .int 0, .int 0, .int 0, .int 0, .int 0, .int 0, .int 0, .int 0, .int 0, .ref q_137, .ref q_138, .int 0, .int 0, .ref q_139, .ref q_140, .ref q_141, .ref q_142, .ref q_143, .ref q_144, .ref q_145, .ref q_146, .ref q_147, .ref q_148, .int 0, .int 0, .int 0, .int 0, .int 0, .int 0, .int 0, .int 0, .int 0, .int 0, .int 0, .int 0, .ref q_149, .ref q_150, .ref q_151, .ref q_152, .ref q_153, .int 0, .int 0, .ref q_154, .ref q_155]))] := hD.sub [0, 56, 58] (by decide) rfl
        refine lv_aload_n hx hb dL_law_1079 rfl (lv_at hl 2 rfl) ?_
        refine lv_aload_n hx hb dL_law_1080 rfl (lv_at hl 3 rfl) ?_
        refine lv_iload_n hx hb dL_law_1081 rfl (lv_at hl 0 rfl) ?_
        refine lv_iconst (v := 1) hx hb dL_law_1082 (by decide) ?_
        refine lv_iadd hx hb dL_law_1083 ?_
        refine p_ti (v := 1) (by decide +kernel) ?_
        refine va_sld hx hb hXs hbl hbA hS (i := 1) (by unfold vp_in; decide) dL_law_1084 ?_
        refine p_ti (v := xs 1) rfl ?_
        refine k_iR (k_V (n := 1) ⟨hx, hb, hml, hown, hT⟩ hK hP hD [0, 1] rfl (by decide) (c_X11_untell l g H.size q_1 q_2 q_3 q_4 q_5 q_6 q_7 q_8 q_9 q_10 q_11 q_97 q_98 q_99 q_100 (xs 1)) (gV bw_728 bw_729 bw_730 bw_207 bw_68) rfl rfl (by decide +kernel) ⟨by decide, by decide⟩ (ci := 11) (q0 := 0) rfl rfl (fun _ _ _ _ _ => trivial) (fun _ _ _ => trivial) rfl rfl hl.1 (Nat.le_of_ble_eq_true rfl) dL_law_1085 ⟨by decide, by decide⟩) hP hS hA (fun r_220 _ H locs hw hP hS => ?_)
        have hw : r_220 = 0 := hw
        subst hw
        refine lv_aload_n hx hb dL_law_1088 rfl (lv_at hl 1 rfl) ?_
        refine lv_aload_n hx hb dL_law_1089 rfl (lv_at hl 3 rfl) ?_
        refine lv_iload_n hx hb dL_law_1090 rfl (lv_at hl 0 rfl) ?_
        refine lv_iconst (v := 1) hx hb dL_law_1091 (by decide) ?_
        refine lv_iadd hx hb dL_law_1092 ?_
        refine p_ti (v := 1) (by decide +kernel) ?_
        refine va_sld hx hb hXs hbl hbA hS (i := 1) (by unfold vp_in; decide) dL_law_1093 ?_
        refine p_ti (v := xs 1) rfl ?_
        refine k_iR (k_V (n := 1) ⟨hx, hb, hml, hown, hT⟩ hK hP hD [2] rfl (by decide) (c_X12_untell l g H.size q_102 q_103 q_104 q_105 q_106 q_107 q_108 q_109 q_110 q_111 q_112 q_113 q_114 q_115 q_116 q_117 q_118 q_119 q_120 q_121 q_122 q_123 q_124 q_125 q_126 q_127 q_128 q_129 q_130 q_131 q_132 q_133 q_134 q_135 q_136 q_137 q_138 q_139 q_140 q_141 q_142 q_143 q_144 q_145 q_146 q_147 q_148 q_149 q_150 q_151 q_152 q_153 q_154 q_155 (xs 1)) (gV bw_731 bw_732 bw_733 bw_233 bw_275) rfl rfl (by decide +kernel) ⟨by decide, by decide⟩ (ci := 12) (q0 := 0) rfl rfl (fun _ _ _ _ _ => trivial) (fun _ _ _ => trivial) rfl rfl hl.1 (Nat.le_of_ble_eq_true rfl) dL_law_1094 ⟨by decide, by decide⟩) hP hS hA (fun r_221 _ H locs hw hP hS => ?_)
        have hw : r_221 = 0 := hw
        subst hw
        refine lv_icmp_eq (tgt := 1217) hx hb dL_law_1097 (by decide) (fun _ => ?_) (fun c9 => absurd (by decide) c9)
        refine lv_iinc (v := 6) (lv' := [(3, .int 6), (2, .ref q_102), (1, .ref q_1), (0, .ref b)]) hx hb dL_law_1217 hl (k := 0) rfl (by decide) (by decide) rfl (fun ls hl => ?_)
        refine lv_goto (tgt := 18) hx hb dL_law_1220 (by decide) ?_
        refine lv_iload_n hx hb dL_law_18 rfl (lv_at hl 0 rfl) ?_
        refine lv_aload_n hx hb dL_law_19 rfl (lv_at hl 3 rfl) ?_
        refine va_slen hx hb hXs hbl hbA hS dL_law_20 ?_
        refine p_ti (v := 6) rfl ?_
        refine lv_bipush (v := 6) hx hb dL_law_21 (by decide) ?_
        refine lv_isub hx hb dL_law_23 ?_
        refine p_ti (v := 0) (by decide +kernel) ?_
        refine lv_icmp_gt (tgt := 1223) hx hb dL_law_24 (by decide) (fun _ => ?_) (fun c9 => absurd (by decide) c9)
        refine lv_iconst (v := 1) hx hb dL_law_1223 (by decide) ?_
        refine va_forget (fun q hq => by have h9 := hS.2.2 q hq; rw [hAe] at h9; exact h9) ?_
        refine W.widen (k := 600000) (n := 7302249) (by decide) (by decide) ?_
        exact lw_ret hx hb hr hlocks dL_law_1224
      · obtain rfl : x_156 = 32 := eh_157
        refine lv_tableIn (tgt := 1102) hx hb dL_law_33 (by decide) (by decide) (off := 1069) (by decide) (by decide) ?_
        have hP : va_P g.1 vwCl [(q_1, .inr (11, [.ref q_2, .int 0, .ref q_3, .ref q_4, .ref q_5, .ref q_6, .int 0, .int 0, .ref q_7, .int 0, .ref q_8, .ref q_9, .ref q_10, .ref q_11])), (q_9, .inr (8, [.int 0, .int 0, .ref q_97, .ref q_98, .ref q_99, .ref q_100])), (q_102, .inr (12, [.ref q_103, .ref q_104, .int 0, .int 0, .int 0, .int (-1), .int 0, .int 0, .int 0, .int 0, .long 0, .ref q_105, .ref q_106, .ref q_107, .ref q_108, .ref q_109, .ref q_110, .ref q_111, .ref q_112, .ref q_113, .ref q_114, .ref q_115, .ref q_116, .ref q_117, .ref q_118, .ref q_119, .ref q_120, .ref q_121, .ref q_122, .ref q_123, .ref q_124, .ref q_125, .ref q_126, .ref q_127, .ref q_128, .ref q_129, .ref q_130, .ref q_131, .ref q_132, .ref q_133, .ref q_134, .ref q_135, .ref q_136, .int 0, .int 0, .int 0, .int 0, .int 0, .int 0, .int 0, .int 0, .int 0, .ref q_137, .ref q_138, .int 0, .int 0, .ref q_139, .ref q_140, .ref q_141, .ref q_142, .ref q_143, .ref q_144, .ref q_145, .ref q_146, .ref q_147, .ref q_148, .int 0, .int 0, .int 0, .int 0, .int 0, .int 0, .int 0, .int 0, .int 0, .int 0, .int 0, .int 0, .ref q_149, .ref q_150, .ref q_151, .ref q_152, .ref q_153, .int 0, .int 0, .ref q_154, .ref q_155]))] H := hP.sub [0, 56, 58] rfl
        have hD : va_D A [(q_1, .inr (11, [.ref q_2, .int 0, .ref q_3, .ref q_4, .ref q_5, .ref q_6, .int 0, .int 0, .ref q_7, .int 0, .ref q_8, .ref q_9, .ref q_10, .ref q_11])), (q_9, .inr (8, [.int 0, .int 0, .ref q_97, .ref q_98, .ref q_99, .ref q_100])), (q_102, .inr (12, [.ref q_103, .ref q_104, .int 0, .int 0, .int 0, .int (-1), .int 0, .int 0, .int 0, .int 0, .long 0, .ref q_105, .ref q_106, .ref q_107, .ref q_108, .ref q_109, .ref q_110, .ref q_111, .ref q_112, .ref q_113, .ref q_114, .ref q_115, .ref q_116, .ref q_117, .ref q_118, .ref q_119, .ref q_120, .ref q_121, .ref q_122, .ref q_123, .ref q_124, .ref q_125, .ref q_126, .ref q_127, .ref q_128, .ref q_129, .ref q_130, .ref q_131, .ref q_132, .ref q_133, .ref q_134, .ref q_135, .ref q_136, .int 0, .int 0, .int 0, .int 0, .int 0, .int 0, .int 0, .int 0, .int 0, .ref q_137, .ref q_138, .int 0, .int 0, .ref q_139, .ref q_140, .ref q_141, .ref q_142, .ref q_143, .ref q_144, .ref q_145, .ref q_146, .ref q_147, .ref q_148, .int 0, .int 0, .int 0, .int 0, .int 0, .int 0, .int 0, .int 0, .int 0, .int 0, .int 0, .int 0, .ref q_149, .ref q_150, .ref q_151, .ref q_152, .ref q_153, .int 0, .int 0, .ref q_154, .ref q_155]))] := hD.sub [0, 56, 58] (by decide) rfl
        refine lv_aload_n hx hb dL_law_1102 rfl (lv_at hl 2 rfl) ?_
        refine lv_aload_n hx hb dL_law_1103 rfl (lv_at hl 3 rfl) ?_
        refine lv_iload_n hx hb dL_law_1104 rfl (lv_at hl 0 rfl) ?_
        refine lv_iconst (v := 1) hx hb dL_law_1105 (by decide) ?_
        refine lv_iadd hx hb dL_law_1106 ?_
        refine p_ti (v := 1) (by decide +kernel) ?_
        refine va_sld hx hb hXs hbl hbA hS (i := 1) (by unfold vp_in; decide) dL_law_1107 ?_
        refine p_ti (v := xs 1) rfl ?_
        refine k_i (wr := [(q_102, .inr (12, [.ref q_103, .ref q_104, .int 0, .int 0, .int 0, .int (-1), .int 0, .int 0, .int 0, .int 0, .long 0, .ref q_105, .ref q_106, .ref q_107, .ref q_108, .ref q_109, .ref q_110, .ref q_111, .ref q_112, .ref q_113, .ref q_114, .ref q_115, .ref q_116, .ref q_117, .ref q_118, .ref q_119, .ref q_120, .ref q_121, .ref q_122, .ref q_123, .ref q_124, .ref q_125, .ref q_126, .ref q_127, .ref q_128, .ref q_129, .ref q_130, .ref q_131, .ref q_132, .ref q_133, .ref q_134, .ref q_135, .ref q_136, .int 0, .int 0, .int 0, .int 0, .int 0, .int 0, .int 0, .int 0, .int 0, .ref q_137, .ref q_138, .int 0, .int 0, .ref q_139, .ref q_140, .ref q_141, .ref q_142, .ref q_143, .ref q_144, .ref q_145, .ref q_146, .ref q_147, .ref q_148, .int 0, .int 0, .int 0, .int 0, .int 0, .int 0, .int 0, .int 0, .int 0, .int 0, .int 0, .int 0, .ref q_149, .ref q_150, .ref q_151, .ref q_152, .ref q_153, .int 0, .int 0, .ref q_154, .ref q_155]))]) (k_V (n := 1) ⟨hx, hb, hml, hown, hT⟩ hK hP hD [0, 1] rfl (by decide) (c_X11_later l g H.size q_1 q_2 q_3 q_4 q_5 q_6 q_7 q_8 q_9 q_10 q_11 q_97 q_98 q_99 q_100 (xs 1)) (gV bw_734 bw_735 bw_736 bw_207 bw_181) rfl rfl (by decide +kernel) ⟨by decide, by decide⟩ (ci := 11) (q0 := 0) rfl rfl (fun _ _ _ _ _ => trivial) (fun _ _ _ => trivial) rfl rfl hl.1 (Nat.le_of_ble_eq_true rfl) dL_law_1108 ⟨by decide, by decide⟩) hP hD hS hA [0, 1] [2] rfl rfl (by decide) (by decide) (fun r_222 u H locs hw hP hD hS => ?_)
        have hP : va_P g.1 vwCl [(q_102, .inr (12, [.ref q_103, .ref q_104, .int 0, .int 0, .int 0, .int (-1), .int 0, .int 0, .int 0, .int 0, .long 0, .ref q_105, .ref q_106, .ref q_107, .ref q_108, .ref q_109, .ref q_110, .ref q_111, .ref q_112, .ref q_113, .ref q_114, .ref q_115, .ref q_116, .ref q_117, .ref q_118, .ref q_119, .ref q_120, .ref q_121, .ref q_122, .ref q_123, .ref q_124, .ref q_125, .ref q_126, .ref q_127, .ref q_128, .ref q_129, .ref q_130, .ref q_131, .ref q_132, .ref q_133, .ref q_134, .ref q_135, .ref q_136, .int 0, .int 0, .int 0, .int 0, .int 0, .int 0, .int 0, .int 0, .int 0, .ref q_137, .ref q_138, .int 0, .int 0, .ref q_139, .ref q_140, .ref q_141, .ref q_142, .ref q_143, .ref q_144, .ref q_145, .ref q_146, .ref q_147, .ref q_148, .int 0, .int 0, .int 0, .int 0, .int 0, .int 0, .int 0, .int 0, .int 0, .int 0, .int 0, .int 0, .ref q_149, .ref q_150, .ref q_151, .ref q_152, .ref q_153, .int 0, .int 0, .ref q_154, .ref q_155]))] H := hP
        have hD : va_D A [(q_102, .inr (12, [.ref q_103, .ref q_104, .int 0, .int 0, .int 0, .int (-1), .int 0, .int 0, .int 0, .int 0, .long 0, .ref q_105, .ref q_106, .ref q_107, .ref q_108, .ref q_109, .ref q_110, .ref q_111, .ref q_112, .ref q_113, .ref q_114, .ref q_115, .ref q_116, .ref q_117, .ref q_118, .ref q_119, .ref q_120, .ref q_121, .ref q_122, .ref q_123, .ref q_124, .ref q_125, .ref q_126, .ref q_127, .ref q_128, .ref q_129, .ref q_130, .ref q_131, .ref q_132, .ref q_133, .ref q_134, .ref q_135, .ref q_136, .int 0, .int 0, .int 0, .int 0, .int 0, .int 0, .int 0, .int 0, .int 0, .ref q_137, .ref q_138, .int 0, .int 0, .ref q_139, .ref q_140, .ref q_141, .ref q_142, .ref q_143, .ref q_144, .ref q_145, .ref q_146, .ref q_147, .ref q_148, .int 0, .int 0, .int 0, .int 0, .int 0, .int 0, .int 0, .int 0, .int 0, .int 0, .int 0, .int 0, .ref q_149, .ref q_150, .ref q_151, .ref q_152, .ref q_153, .int 0, .int 0, .ref q_154, .ref q_155]))] := hD
        have hw : r_222 = (Fr 1000 (xs 1)) := hw
        subst hw
        refine lv_aload_n hx hb dL_law_1111 rfl (lv_at hl 1 rfl) ?_
        refine lv_aload_n hx hb dL_law_1112 rfl (lv_at hl 3 rfl) ?_
        refine lv_iload_n hx hb dL_law_1113 rfl (lv_at hl 0 rfl) ?_
        refine lv_iconst (v := 1) hx hb dL_law_1114 (by decide) ?_
        refine lv_iadd hx hb dL_law_1115 ?_
        refine p_ti (v := 1) (by decide +kernel) ?_
        refine va_sld hx hb hXs hbl hbA hS (i := 1) (by unfold vp_in; decide) dL_law_1116 ?_
        refine p_ti (v := xs 1) rfl ?_
        refine k_i (wr := []) (k_V (n := 1) ⟨hx, hb, hml, hown, hT⟩ hK hP hD [0] rfl (by decide) (c_X12_later l g H.size q_102 q_103 q_104 q_105 q_106 q_107 q_108 q_109 q_110 q_111 q_112 q_113 q_114 q_115 q_116 q_117 q_118 q_119 q_120 q_121 q_122 q_123 q_124 q_125 q_126 q_127 q_128 q_129 q_130 q_131 q_132 q_133 q_134 q_135 q_136 q_137 q_138 q_139 q_140 q_141 q_142 q_143 q_144 q_145 q_146 q_147 q_148 q_149 q_150 q_151 q_152 q_153 q_154 q_155 (xs 1)) (gV bw_737 bw_738 bw_739 bw_233 bw_288) rfl rfl (by decide +kernel) ⟨by decide, by decide⟩ (ci := 12) (q0 := 0) rfl rfl (fun _ _ _ _ _ => trivial) (fun _ _ _ => trivial) rfl rfl hl.1 (Nat.le_of_ble_eq_true rfl) dL_law_1117 ⟨by decide, by decide⟩) hP hD hS hA [0] [] rfl rfl (by decide) (by decide) (fun r_223 u H locs hw hP hD hS => ?_)
        have hP : va_P g.1 vwCl [] H := hP
        have hD : va_D A [] := hD
        have hw : r_223 = (Fr 1000 (xs 1)) := hw
        subst hw
        refine lv_icmp_eq (tgt := 1217) hx hb dL_law_1120 (by decide) (fun _ => ?_) (fun c9 => absurd (rfl) c9)
        refine lv_iinc (v := 6) (lv' := [(3, .int 6), (2, .ref q_102), (1, .ref q_1), (0, .ref b)]) hx hb dL_law_1217 hl (k := 0) rfl (by decide) (by decide) rfl (fun ls hl => ?_)
        refine lv_goto (tgt := 18) hx hb dL_law_1220 (by decide) ?_
        refine lv_iload_n hx hb dL_law_18 rfl (lv_at hl 0 rfl) ?_
        refine lv_aload_n hx hb dL_law_19 rfl (lv_at hl 3 rfl) ?_
        refine va_slen hx hb hXs hbl hbA hS dL_law_20 ?_
        refine p_ti (v := 6) rfl ?_
        refine lv_bipush (v := 6) hx hb dL_law_21 (by decide) ?_
        refine lv_isub hx hb dL_law_23 ?_
        refine p_ti (v := 0) (by decide +kernel) ?_
        refine lv_icmp_gt (tgt := 1223) hx hb dL_law_24 (by decide) (fun _ => ?_) (fun c9 => absurd (by decide) c9)
        refine lv_iconst (v := 1) hx hb dL_law_1223 (by decide) ?_
        refine va_forget (fun q hq => by have h9 := hS.2.2 q hq; rw [hAe] at h9; exact h9) ?_
        refine W.widen (k := 600000) (n := 7302249) (by decide) (by decide) ?_
        exact lw_ret hx hb hr hlocks dL_law_1224
      · obtain rfl : x_156 = 33 := eh_157
        refine lv_tableIn (tgt := 1125) hx hb dL_law_33 (by decide) (by decide) (off := 1092) (by decide) (by decide) ?_
        have hP : va_P g.1 vwCl [(q_1, .inr (11, [.ref q_2, .int 0, .ref q_3, .ref q_4, .ref q_5, .ref q_6, .int 0, .int 0, .ref q_7, .int 0, .ref q_8, .ref q_9, .ref q_10, .ref q_11])), (q_6, aO g 41 (va_up (va_up f_58 0 (some q_57)) 1 (some q_56))), (q_57, .inr (9, [.int 0, .int 0, .int 0, .int 0, .int 0, .int 0, .int 0, .ref q_59, .ref q_60, .ref q_61, .ref q_62, .ref q_63, .ref q_64, .ref q_65])), (q_11, .inr (1, [.int 0, .ref q_101])), (q_102, .inr (12, [.ref q_103, .ref q_104, .int 0, .int 0, .int 0, .int (-1), .int 0, .int 0, .int 0, .int 0, .long 0, .ref q_105, .ref q_106, .ref q_107, .ref q_108, .ref q_109, .ref q_110, .ref q_111, .ref q_112, .ref q_113, .ref q_114, .ref q_115, .ref q_116, .ref q_117, .ref q_118, .ref q_119, .ref q_120, .ref q_121, .ref q_122, .ref q_123, .ref q_124, .ref q_125, .ref q_126, .ref q_127, .ref q_128, .ref q_129, .ref q_130, .ref q_131, .ref q_132, .ref q_133, .ref q_134, .ref q_135, .ref q_136, .int 0, .int 0, .int 0, .int 0, .int 0, .int 0, .int 0, .int 0, .int 0, .ref q_137, .ref q_138, .int 0, .int 0, .ref q_139, .ref q_140, .ref q_141, .ref q_142, .ref q_143, .ref q_144, .ref q_145, .ref q_146, .ref q_147, .ref q_148, .int 0, .int 0, .int 0, .int 0, .int 0, .int 0, .int 0, .int 0, .int 0, .int 0, .int 0, .int 0, .ref q_149, .ref q_150, .ref q_151, .ref q_152, .ref q_153, .int 0, .int 0, .ref q_154, .ref q_155])), (q_137, aI g 374 z0)] H := hP.sub [0, 14, 15, 57, 58, 69] rfl
        have hD : va_D A [(q_1, .inr (11, [.ref q_2, .int 0, .ref q_3, .ref q_4, .ref q_5, .ref q_6, .int 0, .int 0, .ref q_7, .int 0, .ref q_8, .ref q_9, .ref q_10, .ref q_11])), (q_6, aO g 41 (va_up (va_up f_58 0 (some q_57)) 1 (some q_56))), (q_57, .inr (9, [.int 0, .int 0, .int 0, .int 0, .int 0, .int 0, .int 0, .ref q_59, .ref q_60, .ref q_61, .ref q_62, .ref q_63, .ref q_64, .ref q_65])), (q_11, .inr (1, [.int 0, .ref q_101])), (q_102, .inr (12, [.ref q_103, .ref q_104, .int 0, .int 0, .int 0, .int (-1), .int 0, .int 0, .int 0, .int 0, .long 0, .ref q_105, .ref q_106, .ref q_107, .ref q_108, .ref q_109, .ref q_110, .ref q_111, .ref q_112, .ref q_113, .ref q_114, .ref q_115, .ref q_116, .ref q_117, .ref q_118, .ref q_119, .ref q_120, .ref q_121, .ref q_122, .ref q_123, .ref q_124, .ref q_125, .ref q_126, .ref q_127, .ref q_128, .ref q_129, .ref q_130, .ref q_131, .ref q_132, .ref q_133, .ref q_134, .ref q_135, .ref q_136, .int 0, .int 0, .int 0, .int 0, .int 0, .int 0, .int 0, .int 0, .int 0, .ref q_137, .ref q_138, .int 0, .int 0, .ref q_139, .ref q_140, .ref q_141, .ref q_142, .ref q_143, .ref q_144, .ref q_145, .ref q_146, .ref q_147, .ref q_148, .int 0, .int 0, .int 0, .int 0, .int 0, .int 0, .int 0, .int 0, .int 0, .int 0, .int 0, .int 0, .ref q_149, .ref q_150, .ref q_151, .ref q_152, .ref q_153, .int 0, .int 0, .ref q_154, .ref q_155])), (q_137, aI g 374 z0)] := hD.sub [0, 14, 15, 57, 58, 69] (by decide) rfl
        refine lv_aload_n hx hb dL_law_1125 rfl (lv_at hl 2 rfl) ?_
        refine lv_aload_n hx hb dL_law_1126 rfl (lv_at hl 3 rfl) ?_
        refine lv_iload_n hx hb dL_law_1127 rfl (lv_at hl 0 rfl) ?_
        refine lv_iconst (v := 1) hx hb dL_law_1128 (by decide) ?_
        refine lv_iadd hx hb dL_law_1129 ?_
        refine p_ti (v := 1) (by decide +kernel) ?_
        refine va_sld hx hb hXs hbl hbA hS (i := 1) (by unfold vp_in; decide) dL_law_1130 ?_
        refine p_ti (v := xs 1) rfl ?_
        refine k_i (wr := [(q_102, .inr (12, [.ref q_103, .ref q_104, .int 0, .int 0, .int 0, .int (-1), .int 0, .int 0, .int 0, .int 0, .long 0, .ref q_105, .ref q_106, .ref q_107, .ref q_108, .ref q_109, .ref q_110, .ref q_111, .ref q_112, .ref q_113, .ref q_114, .ref q_115, .ref q_116, .ref q_117, .ref q_118, .ref q_119, .ref q_120, .ref q_121, .ref q_122, .ref q_123, .ref q_124, .ref q_125, .ref q_126, .ref q_127, .ref q_128, .ref q_129, .ref q_130, .ref q_131, .ref q_132, .ref q_133, .ref q_134, .ref q_135, .ref q_136, .int 0, .int 0, .int 0, .int 0, .int 0, .int 0, .int 0, .int 0, .int 0, .ref q_137, .ref q_138, .int 0, .int 0, .ref q_139, .ref q_140, .ref q_141, .ref q_142, .ref q_143, .ref q_144, .ref q_145, .ref q_146, .ref q_147, .ref q_148, .int 0, .int 0, .int 0, .int 0, .int 0, .int 0, .int 0, .int 0, .int 0, .int 0, .int 0, .int 0, .ref q_149, .ref q_150, .ref q_151, .ref q_152, .ref q_153, .int 0, .int 0, .ref q_154, .ref q_155])), (q_137, aI g 374 z0)]) (k_V (n := 1) ⟨hx, hb, hml, hown, hT⟩ hK hP hD [0, 1, 2, 3] rfl (by decide) (c_X11_falses l g H.size q_1 q_2 q_3 q_4 q_5 q_6 q_7 q_8 q_9 q_10 q_11 q_56 q_57 q_59 q_60 q_61 q_62 q_63 q_64 q_65 q_101 f_58 (xs 1)) (gV bw_740 bw_741 bw_742 bw_207 bw_78) rfl rfl (by decide +kernel) ⟨by decide, by decide⟩ (ci := 11) (q0 := 0) rfl rfl (fun _ _ _ _ _ => trivial) (fun _ _ _ => trivial) rfl rfl hl.1 (Nat.le_of_ble_eq_true rfl) dL_law_1131 ⟨by decide, by decide⟩) hP hD hS hA [0, 1, 2, 3] [4, 5] rfl rfl (by decide) (by decide) (fun r_224 u H locs hw hP hD hS => ?_)
        have hP : va_P g.1 vwCl [(q_102, .inr (12, [.ref q_103, .ref q_104, .int 0, .int 0, .int 0, .int (-1), .int 0, .int 0, .int 0, .int 0, .long 0, .ref q_105, .ref q_106, .ref q_107, .ref q_108, .ref q_109, .ref q_110, .ref q_111, .ref q_112, .ref q_113, .ref q_114, .ref q_115, .ref q_116, .ref q_117, .ref q_118, .ref q_119, .ref q_120, .ref q_121, .ref q_122, .ref q_123, .ref q_124, .ref q_125, .ref q_126, .ref q_127, .ref q_128, .ref q_129, .ref q_130, .ref q_131, .ref q_132, .ref q_133, .ref q_134, .ref q_135, .ref q_136, .int 0, .int 0, .int 0, .int 0, .int 0, .int 0, .int 0, .int 0, .int 0, .ref q_137, .ref q_138, .int 0, .int 0, .ref q_139, .ref q_140, .ref q_141, .ref q_142, .ref q_143, .ref q_144, .ref q_145, .ref q_146, .ref q_147, .ref q_148, .int 0, .int 0, .int 0, .int 0, .int 0, .int 0, .int 0, .int 0, .int 0, .int 0, .int 0, .int 0, .ref q_149, .ref q_150, .ref q_151, .ref q_152, .ref q_153, .int 0, .int 0, .ref q_154, .ref q_155])), (q_137, aI g 374 z0)] H := hP
        have hD : va_D A [(q_102, .inr (12, [.ref q_103, .ref q_104, .int 0, .int 0, .int 0, .int (-1), .int 0, .int 0, .int 0, .int 0, .long 0, .ref q_105, .ref q_106, .ref q_107, .ref q_108, .ref q_109, .ref q_110, .ref q_111, .ref q_112, .ref q_113, .ref q_114, .ref q_115, .ref q_116, .ref q_117, .ref q_118, .ref q_119, .ref q_120, .ref q_121, .ref q_122, .ref q_123, .ref q_124, .ref q_125, .ref q_126, .ref q_127, .ref q_128, .ref q_129, .ref q_130, .ref q_131, .ref q_132, .ref q_133, .ref q_134, .ref q_135, .ref q_136, .int 0, .int 0, .int 0, .int 0, .int 0, .int 0, .int 0, .int 0, .int 0, .ref q_137, .ref q_138, .int 0, .int 0, .ref q_139, .ref q_140, .ref q_141, .ref q_142, .ref q_143, .ref q_144, .ref q_145, .ref q_146, .ref q_147, .ref q_148, .int 0, .int 0, .int 0, .int 0, .int 0, .int 0, .int 0, .int 0, .int 0, .int 0, .int 0, .int 0, .ref q_149, .ref q_150, .ref q_151, .ref q_152, .ref q_153, .int 0, .int 0, .ref q_154, .ref q_155])), (q_137, aI g 374 z0)] := hD
        have hw : r_224 = 0 := hw
        subst hw
        refine lv_aload_n hx hb dL_law_1134 rfl (lv_at hl 1 rfl) ?_
        refine lv_aload_n hx hb dL_law_1135 rfl (lv_at hl 3 rfl) ?_
        refine lv_iload_n hx hb dL_law_1136 rfl (lv_at hl 0 rfl) ?_
        refine lv_iconst (v := 1) hx hb dL_law_1137 (by decide) ?_
        refine lv_iadd hx hb dL_law_1138 ?_
        refine p_ti (v := 1) (by decide +kernel) ?_
        refine va_sld hx hb hXs hbl hbA hS (i := 1) (by unfold vp_in; decide) dL_law_1139 ?_
        refine p_ti (v := xs 1) rfl ?_
        refine k_i (wr := []) (k_V (n := 1) ⟨hx, hb, hml, hown, hT⟩ hK hP hD [0, 1] rfl (by decide) (c_X12_falses l g H.size q_102 q_103 q_104 q_105 q_106 q_107 q_108 q_109 q_110 q_111 q_112 q_113 q_114 q_115 q_116 q_117 q_118 q_119 q_120 q_121 q_122 q_123 q_124 q_125 q_126 q_127 q_128 q_129 q_130 q_131 q_132 q_133 q_134 q_135 q_136 q_137 q_138 q_139 q_140 q_141 q_142 q_143 q_144 q_145 q_146 q_147 q_148 q_149 q_150 q_151 q_152 q_153 q_154 q_155 (xs 1)) (gV bw_743 bw_744 bw_745 bw_233 bw_281) rfl rfl (by decide +kernel) ⟨by decide, by decide⟩ (ci := 12) (q0 := 0) rfl rfl (fun _ _ _ _ _ => trivial) (fun _ _ _ => trivial) rfl rfl hl.1 (Nat.le_of_ble_eq_true rfl) dL_law_1140 ⟨by decide, by decide⟩) hP hD hS hA [0, 1] [] rfl rfl (by decide) (by decide) (fun r_225 u H locs hw hP hD hS => ?_)
        have hP : va_P g.1 vwCl [] H := hP
        have hD : va_D A [] := hD
        have hw : r_225 = 0 := hw
        subst hw
        refine lv_icmp_eq (tgt := 1217) hx hb dL_law_1143 (by decide) (fun _ => ?_) (fun c9 => absurd (by decide) c9)
        refine lv_iinc (v := 6) (lv' := [(3, .int 6), (2, .ref q_102), (1, .ref q_1), (0, .ref b)]) hx hb dL_law_1217 hl (k := 0) rfl (by decide) (by decide) rfl (fun ls hl => ?_)
        refine lv_goto (tgt := 18) hx hb dL_law_1220 (by decide) ?_
        refine lv_iload_n hx hb dL_law_18 rfl (lv_at hl 0 rfl) ?_
        refine lv_aload_n hx hb dL_law_19 rfl (lv_at hl 3 rfl) ?_
        refine va_slen hx hb hXs hbl hbA hS dL_law_20 ?_
        refine p_ti (v := 6) rfl ?_
        refine lv_bipush (v := 6) hx hb dL_law_21 (by decide) ?_
        refine lv_isub hx hb dL_law_23 ?_
        refine p_ti (v := 0) (by decide +kernel) ?_
        refine lv_icmp_gt (tgt := 1223) hx hb dL_law_24 (by decide) (fun _ => ?_) (fun c9 => absurd (by decide) c9)
        refine lv_iconst (v := 1) hx hb dL_law_1223 (by decide) ?_
        refine va_forget (fun q hq => by have h9 := hS.2.2 q hq; rw [hAe] at h9; exact h9) ?_
        refine W.widen (k := 600000) (n := 7302249) (by decide) (by decide) ?_
        exact lw_ret hx hb hr hlocks dL_law_1224
      · obtain rfl : x_156 = 34 := eh_157
        refine lv_tableIn (tgt := 1148) hx hb dL_law_33 (by decide) (by decide) (off := 1115) (by decide) (by decide) ?_
        have hP : va_P g.1 vwCl [(q_1, .inr (11, [.ref q_2, .int 0, .ref q_3, .ref q_4, .ref q_5, .ref q_6, .int 0, .int 0, .ref q_7, .int 0, .ref q_8, .ref q_9, .ref q_10, .ref q_11])), (q_6, aO g 41 (va_up (va_up f_58 0 (some q_57)) 1 (some q_56))), (q_57, .inr (9, [.int 0, .int 0, .int 0, .int 0, .int 0, .int 0, .int 0, .ref q_59, .ref q_60, .ref q_61, .ref q_62, .ref q_63, .ref q_64, .ref q_65])), (q_59, aI g 6 z0), (q_60, aI g 6 z0), (q_61, aI g 8 z0), (q_62, aI g 8 z0), (q_63, aI g 8 z0), (q_64, aI g 16 z0), (q_65, aI g 60 z0), (q_7, aO g 3 (va_up (va_up (va_up zR 0 (some q_75)) 1 (some q_74)) 2 (some q_73))), (q_75, .inr (9, [.int 0, .int 0, .int 0, .int 0, .int 0, .int 0, .int 0, .ref q_76, .ref q_77, .ref q_78, .ref q_79, .ref q_80, .ref q_81, .ref q_82])), (q_76, aI g 6 z0), (q_77, aI g 6 z0), (q_78, aI g 8 z0), (q_79, aI g 8 z0), (q_80, aI g 8 z0), (q_81, aI g 16 z0), (q_82, aI g 60 z0), (q_74, .inr (9, [.int 0, .int 0, .int 0, .int 0, .int 0, .int 0, .int 0, .ref q_83, .ref q_84, .ref q_85, .ref q_86, .ref q_87, .ref q_88, .ref q_89])), (q_83, aI g 6 z0), (q_84, aI g 6 z0), (q_85, aI g 8 z0), (q_86, aI g 8 z0), (q_87, aI g 8 z0), (q_88, aI g 16 z0), (q_89, aI g 60 z0), (q_73, .inr (9, [.int 0, .int 0, .int 0, .int 0, .int 0, .int 0, .int 0, .ref q_90, .ref q_91, .ref q_92, .ref q_93, .ref q_94, .ref q_95, .ref q_96])), (q_90, aI g 6 z0), (q_91, aI g 6 z0), (q_92, aI g 8 z0), (q_93, aI g 8 z0), (q_94, aI g 8 z0), (q_95, aI g 16 z0), (q_96, aI g 60 z0), (q_102, .inr (12, [.ref q_103, .ref q_104, .int 0, .int 0, .int 0, .int (-1), .int 0, .int 0, .int 0, .int 0, .long 0, .ref q_105, .ref q_106, .ref q_107, .ref q_108, .ref q_109, .ref q_110, .ref q_111, .ref q_112, .ref q_113, .ref q_114, .ref q_115, .ref q_116, .ref q_117, .ref q_118, .ref q_119, .ref q_120, .ref q_121, .ref q_122, .ref q_123, .ref q_124, .ref q_125, .ref q_126, .ref q_127, .ref q_128, .ref q_129, .ref q_130, .ref q_131, .ref q_132, .ref q_133, .ref q_134, .ref q_135, .ref q_136, .int 0, .int 0, .int 0, .int 0, .int 0, .int 0, .int 0, .int 0, .int 0, .ref q_137, .ref q_138, .int 0, .int 0, .ref q_139, .ref q_140, .ref q_141, .ref q_142, .ref q_143, .ref q_144, .ref q_145, .ref q_146, .ref q_147, .ref q_148, .int 0, .int 0, .int 0, .int 0, .int 0, .int 0, .int 0, .int 0, .int 0, .int 0, .int 0, .int 0, .ref q_149, .ref q_150, .ref q_151, .ref q_152, .ref q_153, .int 0, .int 0, .ref q_154, .ref q_155])), (q_137, aI g 374 z0), (q_154, aI g 1122 z0), (q_155, aZ g 3 z0)] H := hP.sub [0, 14, 15, 16, 17, 18, 19, 20, 21, 22, 31, 32, 33, 34, 35, 36, 37, 38, 39, 40, 41, 42, 43, 44, 45, 46, 47, 48, 49, 50, 51, 52, 53, 54, 55, 58, 69, 71, 72] rfl
        have hD : va_D A [(q_1, .inr (11, [.ref q_2, .int 0, .ref q_3, .ref q_4, .ref q_5, .ref q_6, .int 0, .int 0, .ref q_7, .int 0, .ref q_8, .ref q_9, .ref q_10, .ref q_11])), (q_6, aO g 41 (va_up (va_up f_58 0 (some q_57)) 1 (some q_56))), (q_57, .inr (9, [.int 0, .int 0, .int 0, .int 0, .int 0, .int 0, .int 0, .ref q_59, .ref q_60, .ref q_61, .ref q_62, .ref q_63, .ref q_64, .ref q_65])), (q_59, aI g 6 z0), (q_60, aI g 6 z0), (q_61, aI g 8 z0), (q_62, aI g 8 z0), (q_63, aI g 8 z0), (q_64, aI g 16 z0), (q_65, aI g 60 z0), (q_7, aO g 3 (va_up (va_up (va_up zR 0 (some q_75)) 1 (some q_74)) 2 (some q_73))), (q_75, .inr (9, [.int 0, .int 0, .int 0, .int 0, .int 0, .int 0, .int 0, .ref q_76, .ref q_77, .ref q_78, .ref q_79, .ref q_80, .ref q_81, .ref q_82])), (q_76, aI g 6 z0), (q_77, aI g 6 z0), (q_78, aI g 8 z0), (q_79, aI g 8 z0), (q_80, aI g 8 z0), (q_81, aI g 16 z0), (q_82, aI g 60 z0), (q_74, .inr (9, [.int 0, .int 0, .int 0, .int 0, .int 0, .int 0, .int 0, .ref q_83, .ref q_84, .ref q_85, .ref q_86, .ref q_87, .ref q_88, .ref q_89])), (q_83, aI g 6 z0), (q_84, aI g 6 z0), (q_85, aI g 8 z0), (q_86, aI g 8 z0), (q_87, aI g 8 z0), (q_88, aI g 16 z0), (q_89, aI g 60 z0), (q_73, .inr (9, [.int 0, .int 0, .int 0, .int 0, .int 0, .int 0, .int 0, .ref q_90, .ref q_91, .ref q_92, .ref q_93, .ref q_94, .ref q_95, .ref q_96])), (q_90, aI g 6 z0), (q_91, aI g 6 z0), (q_92, aI g 8 z0), (q_93, aI g 8 z0), (q_94, aI g 8 z0), (q_95, aI g 16 z0), (q_96, aI g 60 z0), (q_102, .inr (12, [.ref q_103, .ref q_104, .int 0, .int 0, .int 0, .int (-1), .int 0, .int 0, .int 0, .int 0, .long 0, .ref q_105, .ref q_106, .ref q_107, .ref q_108, .ref q_109, .ref q_110, .ref q_111, .ref q_112, .ref q_113, .ref q_114, .ref q_115, .ref q_116, .ref q_117, .ref q_118, .ref q_119, .ref q_120, .ref q_121, .ref q_122, .ref q_123, .ref q_124, .ref q_125, .ref q_126, .ref q_127, .ref q_128, .ref q_129, .ref q_130, .ref q_131, .ref q_132, .ref q_133, .ref q_134, .ref q_135, .ref q_136, .int 0, .int 0, .int 0, .int 0, .int 0, .int 0, .int 0, .int 0, .int 0, .ref q_137, .ref q_138, .int 0, .int 0, .ref q_139, .ref q_140, .ref q_141, .ref q_142, .ref q_143, .ref q_144, .ref q_145, .ref q_146, .ref q_147, .ref q_148, .int 0, .int 0, .int 0, .int 0, .int 0, .int 0, .int 0, .int 0, .int 0, .int 0, .int 0, .int 0, .ref q_149, .ref q_150, .ref q_151, .ref q_152, .ref q_153, .int 0, .int 0, .ref q_154, .ref q_155])), (q_137, aI g 374 z0), (q_154, aI g 1122 z0), (q_155, aZ g 3 z0)] := hD.sub [0, 14, 15, 16, 17, 18, 19, 20, 21, 22, 31, 32, 33, 34, 35, 36, 37, 38, 39, 40, 41, 42, 43, 44, 45, 46, 47, 48, 49, 50, 51, 52, 53, 54, 55, 58, 69, 71, 72] (by decide) rfl
        refine lv_aload_n hx hb dL_law_1148 rfl (lv_at hl 2 rfl) ?_
        refine lv_aload_n hx hb dL_law_1149 rfl (lv_at hl 3 rfl) ?_
        refine lv_iload_n hx hb dL_law_1150 rfl (lv_at hl 0 rfl) ?_
        refine lv_iconst (v := 1) hx hb dL_law_1151 (by decide) ?_
        refine lv_iadd hx hb dL_law_1152 ?_
        refine p_ti (v := 1) (by decide +kernel) ?_
        refine va_sld hx hb hXs hbl hbA hS (i := 1) (by unfold vp_in; decide) dL_law_1153 ?_
        refine p_ti (v := xs 1) rfl ?_
        refine k_i (wr := [(q_102, .inr (12, [.ref q_103, .ref q_104, .int 0, .int 0, .int 0, .int (-1), .int 0, .int 0, .int 0, .int 0, .long 0, .ref q_105, .ref q_106, .ref q_107, .ref q_108, .ref q_109, .ref q_110, .ref q_111, .ref q_112, .ref q_113, .ref q_114, .ref q_115, .ref q_116, .ref q_117, .ref q_118, .ref q_119, .ref q_120, .ref q_121, .ref q_122, .ref q_123, .ref q_124, .ref q_125, .ref q_126, .ref q_127, .ref q_128, .ref q_129, .ref q_130, .ref q_131, .ref q_132, .ref q_133, .ref q_134, .ref q_135, .ref q_136, .int 0, .int 0, .int 0, .int 0, .int 0, .int 0, .int 0, .int 0, .int 0, .ref q_137, .ref q_138, .int 0, .int 0, .ref q_139, .ref q_140, .ref q_141, .ref q_142, .ref q_143, .ref q_144, .ref q_145, .ref q_146, .ref q_147, .ref q_148, .int 0, .int 0, .int 0, .int 0, .int 0, .int 0, .int 0, .int 0, .int 0, .int 0, .int 0, .int 0, .ref q_149, .ref q_150, .ref q_151, .ref q_152, .ref q_153, .int 0, .int 0, .ref q_154, .ref q_155])), (q_137, aI g 374 z0), (q_154, aI g 1122 z0), (q_155, aZ g 3 z0)]) (k_V (n := 1) ⟨hx, hb, hml, hown, hT⟩ hK hP hD [0, 1, 2, 3, 4, 5, 6, 7, 8, 9, 10, 11, 12, 13, 14, 15, 16, 17, 18, 19, 20, 21, 22, 23, 24, 25, 26, 27, 28, 29, 30, 31, 32, 33, 34] rfl (by decide) (c_X11_image l g H.size q_1 q_2 q_3 q_4 q_5 q_6 q_7 q_8 q_9 q_10 q_11 q_56 q_57 q_59 q_60 q_61 q_62 q_63 q_64 q_65 q_73 q_74 q_75 q_76 q_77 q_78 q_79 q_80 q_81 q_82 q_83 q_84 q_85 q_86 q_87 q_88 q_89 q_90 q_91 q_92 q_93 q_94 q_95 q_96 f_58 (xs 1)) (gV bw_746 bw_747 bw_748 bw_207 bw_213) rfl rfl (by decide +kernel) ⟨by decide, by decide⟩ (ci := 11) (q0 := 0) rfl rfl (fun _ _ _ _ _ => trivial) (fun _ _ _ => trivial) rfl rfl hl.1 (Nat.le_of_ble_eq_true rfl) dL_law_1154 ⟨by decide, by decide⟩) hP hD hS hA [0, 1, 2, 3, 4, 5, 6, 7, 8, 9, 10, 11, 12, 13, 14, 15, 16, 17, 18, 19, 20, 21, 22, 23, 24, 25, 26, 27, 28, 29, 30, 31, 32, 33, 34] [35, 36, 37, 38] rfl rfl (by decide) (by decide) (fun r_226 u H locs hw hP hD hS => ?_)
        have hP : va_P g.1 vwCl [(q_102, .inr (12, [.ref q_103, .ref q_104, .int 0, .int 0, .int 0, .int (-1), .int 0, .int 0, .int 0, .int 0, .long 0, .ref q_105, .ref q_106, .ref q_107, .ref q_108, .ref q_109, .ref q_110, .ref q_111, .ref q_112, .ref q_113, .ref q_114, .ref q_115, .ref q_116, .ref q_117, .ref q_118, .ref q_119, .ref q_120, .ref q_121, .ref q_122, .ref q_123, .ref q_124, .ref q_125, .ref q_126, .ref q_127, .ref q_128, .ref q_129, .ref q_130, .ref q_131, .ref q_132, .ref q_133, .ref q_134, .ref q_135, .ref q_136, .int 0, .int 0, .int 0, .int 0, .int 0, .int 0, .int 0, .int 0, .int 0, .ref q_137, .ref q_138, .int 0, .int 0, .ref q_139, .ref q_140, .ref q_141, .ref q_142, .ref q_143, .ref q_144, .ref q_145, .ref q_146, .ref q_147, .ref q_148, .int 0, .int 0, .int 0, .int 0, .int 0, .int 0, .int 0, .int 0, .int 0, .int 0, .int 0, .int 0, .ref q_149, .ref q_150, .ref q_151, .ref q_152, .ref q_153, .int 0, .int 0, .ref q_154, .ref q_155])), (q_137, aI g 374 z0), (q_154, aI g 1122 z0), (q_155, aZ g 3 z0)] H := hP
        have hD : va_D A [(q_102, .inr (12, [.ref q_103, .ref q_104, .int 0, .int 0, .int 0, .int (-1), .int 0, .int 0, .int 0, .int 0, .long 0, .ref q_105, .ref q_106, .ref q_107, .ref q_108, .ref q_109, .ref q_110, .ref q_111, .ref q_112, .ref q_113, .ref q_114, .ref q_115, .ref q_116, .ref q_117, .ref q_118, .ref q_119, .ref q_120, .ref q_121, .ref q_122, .ref q_123, .ref q_124, .ref q_125, .ref q_126, .ref q_127, .ref q_128, .ref q_129, .ref q_130, .ref q_131, .ref q_132, .ref q_133, .ref q_134, .ref q_135, .ref q_136, .int 0, .int 0, .int 0, .int 0, .int 0, .int 0, .int 0, .int 0, .int 0, .ref q_137, .ref q_138, .int 0, .int 0, .ref q_139, .ref q_140, .ref q_141, .ref q_142, .ref q_143, .ref q_144, .ref q_145, .ref q_146, .ref q_147, .ref q_148, .int 0, .int 0, .int 0, .int 0, .int 0, .int 0, .int 0, .int 0, .int 0, .int 0, .int 0, .int 0, .ref q_149, .ref q_150, .ref q_151, .ref q_152, .ref q_153, .int 0, .int 0, .ref q_154, .ref q_155])), (q_137, aI g 374 z0), (q_154, aI g 1122 z0), (q_155, aZ g 3 z0)] := hD
        have hw : r_226 = (Fz 2 (xs 1)) := hw
        subst hw
        refine lv_aload_n hx hb dL_law_1157 rfl (lv_at hl 1 rfl) ?_
        refine lv_aload_n hx hb dL_law_1158 rfl (lv_at hl 3 rfl) ?_
        refine lv_iload_n hx hb dL_law_1159 rfl (lv_at hl 0 rfl) ?_
        refine lv_iconst (v := 1) hx hb dL_law_1160 (by decide) ?_
        refine lv_iadd hx hb dL_law_1161 ?_
        refine p_ti (v := 1) (by decide +kernel) ?_
        refine va_sld hx hb hXs hbl hbA hS (i := 1) (by unfold vp_in; decide) dL_law_1162 ?_
        refine p_ti (v := xs 1) rfl ?_
        refine k_i (wr := []) (k_V (n := 1) ⟨hx, hb, hml, hown, hT⟩ hK hP hD [0, 1, 2, 3] rfl (by decide) (c_X12_image l g H.size q_102 q_103 q_104 q_105 q_106 q_107 q_108 q_109 q_110 q_111 q_112 q_113 q_114 q_115 q_116 q_117 q_118 q_119 q_120 q_121 q_122 q_123 q_124 q_125 q_126 q_127 q_128 q_129 q_130 q_131 q_132 q_133 q_134 q_135 q_136 q_137 q_138 q_139 q_140 q_141 q_142 q_143 q_144 q_145 q_146 q_147 q_148 q_149 q_150 q_151 q_152 q_153 q_154 q_155 (xs 1)) (gV bw_749 bw_750 bw_751 bw_233 bw_337) rfl rfl (by decide +kernel) ⟨by decide, by decide⟩ (ci := 12) (q0 := 0) rfl rfl (fun _ _ _ _ _ => trivial) (fun _ _ _ => trivial) rfl rfl hl.1 (Nat.le_of_ble_eq_true rfl) dL_law_1163 ⟨by decide, by decide⟩) hP hD hS hA [0, 1, 2, 3] [] rfl rfl (by decide) (by decide) (fun r_227 u H locs hw hP hD hS => ?_)
        have hP : va_P g.1 vwCl [] H := hP
        have hD : va_D A [] := hD
        have hw : r_227 = (Fz 2 (xs 1)) := hw
        subst hw
        refine lv_icmp_eq (tgt := 1217) hx hb dL_law_1166 (by decide) (fun _ => ?_) (fun c9 => absurd (rfl) c9)
        refine lv_iinc (v := 6) (lv' := [(3, .int 6), (2, .ref q_102), (1, .ref q_1), (0, .ref b)]) hx hb dL_law_1217 hl (k := 0) rfl (by decide) (by decide) rfl (fun ls hl => ?_)
        refine lv_goto (tgt := 18) hx hb dL_law_1220 (by decide) ?_
        refine lv_iload_n hx hb dL_law_18 rfl (lv_at hl 0 rfl) ?_
        refine lv_aload_n hx hb dL_law_19 rfl (lv_at hl 3 rfl) ?_
        refine va_slen hx hb hXs hbl hbA hS dL_law_20 ?_
        refine p_ti (v := 6) rfl ?_
        refine lv_bipush (v := 6) hx hb dL_law_21 (by decide) ?_
        refine lv_isub hx hb dL_law_23 ?_
        refine p_ti (v := 0) (by decide +kernel) ?_
        refine lv_icmp_gt (tgt := 1223) hx hb dL_law_24 (by decide) (fun _ => ?_) (fun c9 => absurd (by decide) c9)
        refine lv_iconst (v := 1) hx hb dL_law_1223 (by decide) ?_
        refine va_forget (fun q hq => by have h9 := hS.2.2 q hq; rw [hAe] at h9; exact h9) ?_
        refine W.widen (k := 600000) (n := 7302249) (by decide) (by decide) ?_
        exact lw_ret hx hb hr hlocks dL_law_1224
      · obtain rfl : x_156 = 35 := eh_157
        refine lv_tableIn (tgt := 1171) hx hb dL_law_33 (by decide) (by decide) (off := 1138) (by decide) (by decide) ?_
        have hP : va_P g.1 vwCl [(q_1, .inr (11, [.ref q_2, .int 0, .ref q_3, .ref q_4, .ref q_5, .ref q_6, .int 0, .int 0, .ref q_7, .int 0, .ref q_8, .ref q_9, .ref q_10, .ref q_11])), (q_102, .inr (12, [.ref q_103, .ref q_104, .int 0, .int 0, .int 0, .int (-1), .int 0, .int 0, .int 0, .int 0, .long 0, .ref q_105, .ref q_106, .ref q_107, .ref q_108, .ref q_109, .ref q_110, .ref q_111, .ref q_112, .ref q_113, .ref q_114, .ref q_115, .ref q_116, .ref q_117, .ref q_118, .ref q_119, .ref q_120, .ref q_121, .ref q_122, .ref q_123, .ref q_124, .ref q_125, .ref q_126, .ref q_127, .ref q_128, .ref q_129, .ref q_130, .ref q_131, .ref q_132, .ref q_133, .ref q_134, .ref q_135, .ref q_136, .int 0, .int 0, .int 0, .int 0, .int 0, .int 0, .int 0, .int 0, .int 0, .ref q_137, .ref q_138, .int 0, .int 0, .ref q_139, .ref q_140, .ref q_141, .ref q_142, .ref q_143, .ref q_144, .ref q_145, .ref q_146, .ref q_147, .ref q_148, .int 0, .int 0, .int 0, .int 0, .int 0, .int 0, .int 0, .int 0, .int 0, .int 0, .int 0, .int 0, .ref q_149, .ref q_150, .ref q_151, .ref q_152, .ref q_153, .int 0, .int 0, .ref q_154, .ref q_155])), (q_155, aZ g 3 z0)] H := hP.sub [0, 58, 72] rfl
        have hD : va_D A [(q_1, .inr (11, [.ref q_2, .int 0, .ref q_3, .ref q_4, .ref q_5, .ref q_6, .int 0, .int 0, .ref q_7, .int 0, .ref q_8, .ref q_9, .ref q_10, .ref q_11])), (q_102, .inr (12, [.ref q_103, .ref q_104, .int 0, .int 0, .int 0, .int (-1), .int 0, .int 0, .int 0, .int 0, .long 0, .ref q_105, .ref q_106, .ref q_107, .ref q_108, .ref q_109, .ref q_110, .ref q_111, .ref q_112, .ref q_113, .ref q_114, .ref q_115, .ref q_116, .ref q_117, .ref q_118, .ref q_119, .ref q_120, .ref q_121, .ref q_122, .ref q_123, .ref q_124, .ref q_125, .ref q_126, .ref q_127, .ref q_128, .ref q_129, .ref q_130, .ref q_131, .ref q_132, .ref q_133, .ref q_134, .ref q_135, .ref q_136, .int 0, .int 0, .int 0, .int 0, .int 0, .int 0, .int 0, .int 0, .int 0, .ref q_137, .ref q_138, .int 0, .int 0, .ref q_139, .ref q_140, .ref q_141, .ref q_142, .ref q_143, .ref q_144, .ref q_145, .ref q_146, .ref q_147, .ref q_148, .int 0, .int 0, .int 0, .int 0, .int 0, .int 0, .int 0, .int 0, .int 0, .int 0, .int 0, .int 0, .ref q_149, .ref q_150, .ref q_151, .ref q_152, .ref q_153, .int 0, .int 0, .ref q_154, .ref q_155])), (q_155, aZ g 3 z0)] := hD.sub [0, 58, 72] (by decide) rfl
        refine lv_aload_n hx hb dL_law_1171 rfl (lv_at hl 2 rfl) ?_
        refine lv_aload_n hx hb dL_law_1172 rfl (lv_at hl 3 rfl) ?_
        refine lv_iload_n hx hb dL_law_1173 rfl (lv_at hl 0 rfl) ?_
        refine lv_iconst (v := 1) hx hb dL_law_1174 (by decide) ?_
        refine lv_iadd hx hb dL_law_1175 ?_
        refine p_ti (v := 1) (by decide +kernel) ?_
        refine va_sld hx hb hXs hbl hbA hS (i := 1) (by unfold vp_in; decide) dL_law_1176 ?_
        refine p_ti (v := xs 1) rfl ?_
        refine k_iR (k_V (n := 1) ⟨hx, hb, hml, hown, hT⟩ hK hP hD [0] rfl (by decide) (c_X11_back l g H.size q_1 q_2 q_3 q_4 q_5 q_6 q_7 q_8 q_9 q_10 q_11 (xs 1)) (gV bw_752 bw_753 bw_754 bw_207 bw_70) rfl rfl (by decide +kernel) ⟨by decide, by decide⟩ (ci := 11) (q0 := 0) rfl rfl (fun _ _ _ _ _ => trivial) (fun _ _ _ => trivial) rfl rfl hl.1 (Nat.le_of_ble_eq_true rfl) dL_law_1177 ⟨by decide, by decide⟩) hP hS hA (fun r_228 _ H locs hw hP hS => ?_)
        have hw : r_228 = (-1) := hw
        subst hw
        refine lv_aload_n hx hb dL_law_1180 rfl (lv_at hl 1 rfl) ?_
        refine lv_aload_n hx hb dL_law_1181 rfl (lv_at hl 3 rfl) ?_
        refine lv_iload_n hx hb dL_law_1182 rfl (lv_at hl 0 rfl) ?_
        refine lv_iconst (v := 1) hx hb dL_law_1183 (by decide) ?_
        refine lv_iadd hx hb dL_law_1184 ?_
        refine p_ti (v := 1) (by decide +kernel) ?_
        refine va_sld hx hb hXs hbl hbA hS (i := 1) (by unfold vp_in; decide) dL_law_1185 ?_
        refine p_ti (v := xs 1) rfl ?_
        refine k_iR (k_V (n := 1) ⟨hx, hb, hml, hown, hT⟩ hK hP hD [1, 2] rfl (by decide) (c_X12_back l g H.size q_102 q_103 q_104 q_105 q_106 q_107 q_108 q_109 q_110 q_111 q_112 q_113 q_114 q_115 q_116 q_117 q_118 q_119 q_120 q_121 q_122 q_123 q_124 q_125 q_126 q_127 q_128 q_129 q_130 q_131 q_132 q_133 q_134 q_135 q_136 q_137 q_138 q_139 q_140 q_141 q_142 q_143 q_144 q_145 q_146 q_147 q_148 q_149 q_150 q_151 q_152 q_153 q_154 q_155 (xs 1)) (gV bw_755 bw_756 bw_757 bw_233 bw_277) rfl rfl (by decide +kernel) ⟨by decide, by decide⟩ (ci := 12) (q0 := 0) rfl rfl (fun _ _ _ _ _ => trivial) (fun _ _ _ => trivial) rfl rfl hl.1 (Nat.le_of_ble_eq_true rfl) dL_law_1186 ⟨by decide, by decide⟩) hP hS hA (fun r_229 _ H locs hw hP hS => ?_)
        have hw : r_229 = (-1) := hw
        subst hw
        refine lv_icmp_eq (tgt := 1217) hx hb dL_law_1189 (by decide) (fun _ => ?_) (fun c9 => absurd (by decide) c9)
        refine lv_iinc (v := 6) (lv' := [(3, .int 6), (2, .ref q_102), (1, .ref q_1), (0, .ref b)]) hx hb dL_law_1217 hl (k := 0) rfl (by decide) (by decide) rfl (fun ls hl => ?_)
        refine lv_goto (tgt := 18) hx hb dL_law_1220 (by decide) ?_
        refine lv_iload_n hx hb dL_law_18 rfl (lv_at hl 0 rfl) ?_
        refine lv_aload_n hx hb dL_law_19 rfl (lv_at hl 3 rfl) ?_
        refine va_slen hx hb hXs hbl hbA hS dL_law_20 ?_
        refine p_ti (v := 6) rfl ?_
        refine lv_bipush (v := 6) hx hb dL_law_21 (by decide) ?_
        refine lv_isub hx hb dL_law_23 ?_
        refine p_ti (v := 0) (by decide +kernel) ?_
        refine lv_icmp_gt (tgt := 1223) hx hb dL_law_24 (by decide) (fun _ => ?_) (fun c9 => absurd (by decide) c9)
        refine lv_iconst (v := 1) hx hb dL_law_1223 (by decide) ?_
        refine va_forget (fun q hq => by have h9 := hS.2.2 q hq; rw [hAe] at h9; exact h9) ?_
        refine W.widen (k := 600000) (n := 7302249) (by decide) (by decide) ?_
        exact lw_ret hx hb hr hlocks dL_law_1224
      · obtain rfl : x_156 = 36 := eh_157
        refine lv_tableIn (tgt := 1194) hx hb dL_law_33 (by decide) (by decide) (off := 1161) (by decide) (by decide) ?_
        have hP : va_P g.1 vwCl [(q_1, .inr (11, [.ref q_2, .int 0, .ref q_3, .ref q_4, .ref q_5, .ref q_6, .int 0, .int 0, .ref q_7, .int 0, .ref q_8, .ref q_9, .ref q_10, .ref q_11])), (q_4, .inr (2, [.ref q_14, .ref q_15, .ref q_16, .int 0, .ref q_17, .ref q_18, .int 9, .int 0, .ref q_19])), (q_14, .inr (3, [.int 0, .ref q_20, .ref q_21, .ref q_22, .ref q_23])), (q_15, .inr (0, [.int 0, .int 0, .ref q_24, .int 0, .int 0, .ref q_25, .ref q_26, .ref q_27])), (q_16, .inr (6, [.int 0, .ref q_28, .ref q_29, .ref q_30, .ref q_31, .ref q_32, .ref q_33, .ref q_34])), (q_6, aO g 41 (va_up (va_up f_58 0 (some q_57)) 1 (some q_56))), (q_57, .inr (9, [.int 0, .int 0, .int 0, .int 0, .int 0, .int 0, .int 0, .ref q_59, .ref q_60, .ref q_61, .ref q_62, .ref q_63, .ref q_64, .ref q_65])), (q_9, .inr (8, [.int 0, .int 0, .ref q_97, .ref q_98, .ref q_99, .ref q_100])), (q_11, .inr (1, [.int 0, .ref q_101])), (q_102, .inr (12, [.ref q_103, .ref q_104, .int 0, .int 0, .int 0, .int (-1), .int 0, .int 0, .int 0, .int 0, .long 0, .ref q_105, .ref q_106, .ref q_107, .ref q_108, .ref q_109, .ref q_110, .ref q_111, .ref q_112, .ref q_113, .ref q_114, .ref q_115, .ref q_116, .ref q_117, .ref q_118, .ref q_119, .ref q_120, .ref q_121, .ref q_122, .ref q_123, .ref q_124, .ref q_125, .ref q_126, .ref q_127, .ref q_128, .ref q_129, .ref q_130, .ref q_131, .ref q_132, .ref q_133, .ref q_134, .ref q_135, .ref q_136, .int 0, .int 0, .int 0, .int 0, .int 0, .int 0, .int 0, .int 0, .int 0, .ref q_137, .ref q_138, .int 0, .int 0, .ref q_139, .ref q_140, .ref q_141, .ref q_142, .ref q_143, .ref q_144, .ref q_145, .ref q_146, .ref q_147, .ref q_148, .int 0, .int 0, .int 0, .int 0, .int 0, .int 0, .int 0, .int 0, .int 0, .int 0, .int 0, .int 0, .ref q_149, .ref q_150, .ref q_151, .ref q_152, .ref q_153, .int 0, .int 0, .ref q_154, .ref q_155])), (q_105, aI g 2 z0), (q_106, aI g 2 z0), (q_107, aI g 2 z0), (q_109, aI g 2 z0), (q_137, aI g 374 z0)] H := hP.sub [0, 4, 5, 6, 7, 14, 15, 56, 57, 58, 60, 61, 62, 64, 69] rfl
        have hD : va_D A [(q_1, .inr (11, [.ref q_2, .int 0, .ref q_3, .ref q_4, .ref q_5, .ref q_6, .int 0, .int 0, .ref q_7, .int 0, .ref q_8, .ref q_9, .ref q_10, .ref q_11])), (q_4, .inr (2, [.ref q_14, .ref q_15, .ref q_16, .int 0, .ref q_17, .ref q_18, .int 9, .int 0, .ref q_19])), (q_14, .inr (3, [.int 0, .ref q_20, .ref q_21, .ref q_22, .ref q_23])), (q_15, .inr (0, [.int 0, .int 0, .ref q_24, .int 0, .int 0, .ref q_25, .ref q_26, .ref q_27])), (q_16, .inr (6, [.int 0, .ref q_28, .ref q_29, .ref q_30, .ref q_31, .ref q_32, .ref q_33, .ref q_34])), (q_6, aO g 41 (va_up (va_up f_58 0 (some q_57)) 1 (some q_56))), (q_57, .inr (9, [.int 0, .int 0, .int 0, .int 0, .int 0, .int 0, .int 0, .ref q_59, .ref q_60, .ref q_61, .ref q_62, .ref q_63, .ref q_64, .ref q_65])), (q_9, .inr (8, [.int 0, .int 0, .ref q_97, .ref q_98, .ref q_99, .ref q_100])), (q_11, .inr (1, [.int 0, .ref q_101])), (q_102, .inr (12, [.ref q_103, .ref q_104, .int 0, .int 0, .int 0, .int (-1), .int 0, .int 0, .int 0, .int 0, .long 0, .ref q_105, .ref q_106, .ref q_107, .ref q_108, .ref q_109, .ref q_110, .ref q_111, .ref q_112, .ref q_113, .ref q_114, .ref q_115, .ref q_116, .ref q_117, .ref q_118, .ref q_119, .ref q_120, .ref q_121, .ref q_122, .ref q_123, .ref q_124, .ref q_125, .ref q_126, .ref q_127, .ref q_128, .ref q_129, .ref q_130, .ref q_131, .ref q_132, .ref q_133, .ref q_134, .ref q_135, .ref q_136, .int 0, .int 0, .int 0, .int 0, .int 0, .int 0, .int 0, .int 0, .int 0, .ref q_137, .ref q_138, .int 0, .int 0, .ref q_139, .ref q_140, .ref q_141, .ref q_142, .ref q_143, .ref q_144, .ref q_145, .ref q_146, .ref q_147, .ref q_148, .int 0, .int 0, .int 0, .int 0, .int 0, .int 0, .int 0, .int 0, .int 0, .int 0, .int 0, .int 0, .ref q_149, .ref q_150, .ref q_151, .ref q_152, .ref q_153, .int 0, .int 0, .ref q_154, .ref q_155])), (q_105, aI g 2 z0), (q_106, aI g 2 z0), (q_107, aI g 2 z0), (q_109, aI g 2 z0), (q_137, aI g 374 z0)] := hD.sub [0, 4, 5, 6, 7, 14, 15, 56, 57, 58, 60, 61, 62, 64, 69] (by decide) rfl
        refine lv_aload_n hx hb dL_law_1194 rfl (lv_at hl 2 rfl) ?_
        refine lv_aload_n hx hb dL_law_1195 rfl (lv_at hl 3 rfl) ?_
        refine lv_iload_n hx hb dL_law_1196 rfl (lv_at hl 0 rfl) ?_
        refine lv_iconst (v := 1) hx hb dL_law_1197 (by decide) ?_
        refine lv_iadd hx hb dL_law_1198 ?_
        refine p_ti (v := 1) (by decide +kernel) ?_
        refine va_sld hx hb hXs hbl hbA hS (i := 1) (by unfold vp_in; decide) dL_law_1199 ?_
        refine p_ti (v := xs 1) rfl ?_
        refine k_iR (k_V (n := 1) ⟨hx, hb, hml, hown, hT⟩ hK hP hD [0, 1, 2, 3, 4, 5, 6, 7, 8] rfl (by decide) (c_X11_about l g H.size q_1 q_2 q_3 q_4 q_5 q_6 q_7 q_8 q_9 q_10 q_11 q_14 q_15 q_16 q_17 q_18 q_19 q_20 q_21 q_22 q_23 q_24 q_25 q_26 q_27 q_28 q_29 q_30 q_31 q_32 q_33 q_34 q_56 q_57 q_59 q_60 q_61 q_62 q_63 q_64 q_65 q_97 q_98 q_99 q_100 q_101 f_58 (xs 1)) (gV bw_758 bw_759 bw_760 bw_207 bw_199) rfl rfl (by decide +kernel) ⟨by decide, by decide⟩ (ci := 11) (q0 := 0) rfl rfl (fun _ _ _ _ _ => trivial) (fun _ _ _ => trivial) rfl rfl hl.1 (Nat.le_of_ble_eq_true rfl) dL_law_1200 ⟨by decide, by decide⟩) hP hS hA (fun r_230 _ H locs hw hP hS => ?_)
        have hw : r_230 = (Fz 15 (xs 1)) := hw
        subst hw
        refine lv_aload_n hx hb dL_law_1203 rfl (lv_at hl 1 rfl) ?_
        refine lv_aload_n hx hb dL_law_1204 rfl (lv_at hl 3 rfl) ?_
        refine lv_iload_n hx hb dL_law_1205 rfl (lv_at hl 0 rfl) ?_
        refine lv_iconst (v := 1) hx hb dL_law_1206 (by decide) ?_
        refine lv_iadd hx hb dL_law_1207 ?_
        refine p_ti (v := 1) (by decide +kernel) ?_
        refine va_sld hx hb hXs hbl hbA hS (i := 1) (by unfold vp_in; decide) dL_law_1208 ?_
        refine p_ti (v := xs 1) rfl ?_
        refine k_iR (k_V (n := 1) ⟨hx, hb, hml, hown, hT⟩ hK hP hD [9, 10, 11, 12, 13, 14] rfl (by decide) (c_X12_about l g H.size q_102 q_103 q_104 q_105 q_106 q_107 q_108 q_109 q_110 q_111 q_112 q_113 q_114 q_115 q_116 q_117 q_118 q_119 q_120 q_121 q_122 q_123 q_124 q_125 q_126 q_127 q_128 q_129 q_130 q_131 q_132 q_133 q_134 q_135 q_136 q_137 q_138 q_139 q_140 q_141 q_142 q_143 q_144 q_145 q_146 q_147 q_148 q_149 q_150 q_151 q_152 q_153 q_154 q_155 (xs 1)) (gV bw_761 bw_762 bw_763 bw_233 bw_294) rfl rfl (by decide +kernel) ⟨by decide, by decide⟩ (ci := 12) (q0 := 0) rfl rfl (fun _ _ _ _ _ => trivial) (fun _ _ _ => trivial) rfl rfl hl.1 (Nat.le_of_ble_eq_true rfl) dL_law_1209 ⟨by decide, by decide⟩) hP hS hA (fun r_231 _ H locs hw hP hS => ?_)
        have hw : r_231 = (Fz 15 (xs 1)) := hw
        subst hw
        refine lv_icmp_eq (tgt := 1217) hx hb dL_law_1212 (by decide) (fun _ => ?_) (fun c9 => absurd (rfl) c9)
        refine lv_iinc (v := 6) (lv' := [(3, .int 6), (2, .ref q_102), (1, .ref q_1), (0, .ref b)]) hx hb dL_law_1217 hl (k := 0) rfl (by decide) (by decide) rfl (fun ls hl => ?_)
        refine lv_goto (tgt := 18) hx hb dL_law_1220 (by decide) ?_
        refine lv_iload_n hx hb dL_law_18 rfl (lv_at hl 0 rfl) ?_
        refine lv_aload_n hx hb dL_law_19 rfl (lv_at hl 3 rfl) ?_
        refine va_slen hx hb hXs hbl hbA hS dL_law_20 ?_
        refine p_ti (v := 6) rfl ?_
        refine lv_bipush (v := 6) hx hb dL_law_21 (by decide) ?_
        refine lv_isub hx hb dL_law_23 ?_
        refine p_ti (v := 0) (by decide +kernel) ?_
        refine lv_icmp_gt (tgt := 1223) hx hb dL_law_24 (by decide) (fun _ => ?_) (fun c9 => absurd (by decide) c9)
        refine lv_iconst (v := 1) hx hb dL_law_1223 (by decide) ?_
        refine va_forget (fun q hq => by have h9 := hS.2.2 q hq; rw [hAe] at h9; exact h9) ?_
        refine W.widen (k := 600000) (n := 7302249) (by decide) (by decide) ?_
        exact lw_ret hx hb hr hlocks dL_law_1224
