/** The edges that '==== 2' of the document and the promises 6 to 21 name; above each test stands its sentence. */
public final class LandEdgesTest {
    private static final Checks C = new Checks();
    private static final Twins T = new Twins(C);
    private static final int LEAST = Integer.MIN_VALUE;
    private static final int MOST = Integer.MAX_VALUE;

    public static void main(String[] args) {
        manEdges();
        duelEdges();
        reasonEdges();
        worthBounds();
        worthOfInts();
        worthOfTruth();
        worthCounts();
        worthRefused();
        mayOnDays();
        mayWhose();
        mayWhatWasUsed();
        mayRefused();
        nextEdges();
        heirEdges();
        hisEdges();
        comesEdges();
        putEdges();
        greatestMorning();
        putRefused();
        rentEdges();
        rentRefused();
        strikeEdges();
        insultEdges();
        eightDuels();
        insultRefused();
        daysEdges();
        daysRefused();
        deathAheadOfFight();
        fights();
        inheriting();
        whoDoesNotInherit();
        undoEdges();
        fortyActs();
        redoEdges();
        C.finish("LandEdgesTest");
    }

    private static String men(int n, int dies) {
        StringBuilder s = new StringBuilder();
        for (int i = 0; i < n; i++) {
            s.append("man ").append((char) ('a' + i)).append(" dies ").append(dies).append(';');
        }
        return s.toString();
    }

    private static DuelDelays rich() {
        DuelDelays x = new DuelDelays();
        Ways.rich(x);
        return x;
    }

    // ---- what is so now

    // "-2 if there is none such, or for another what"; "1 if he is alive, else 0", "whose son (NONE)"
    private static void manEdges() {
        DuelDelays x = rich();
        int[][] want = {{1, 3, -1, 30, 8}, {1, 4, -1, 40, 0}, {1, 0, 0, 90, 0}, {0, 0, -1, 3, 0}};
        for (int man = 0; man < 4; man++) {
            for (int what = 0; what < 5; what++) {
                C.due("man(" + man + ", " + what + ")", x.man(man, what), want[man][what]);
            }
        }
        int[][] wrong = {{-1, 0}, {4, 0}, {LEAST, 0}, {MOST, 0}, {0, -1}, {0, 5}, {3, LEAST}, {3, MOST}, {-1, -1}};
        for (int[] w : wrong) {
            T.same("man(" + w[0] + ", " + w[1] + ")", Ways::rich, y -> y.man(w[0], w[1]), -2);
        }
        DuelDelays six = Checks.land(men(6, 9));
        C.due("the sixth", six.man(5, 3), 9);
        C.due("a seventh", six.man(6, 3), -2);
    }

    // "whose HONOUR (the MAN; NONE)", "1 if it is OPEN, else 0", "-2 if there is none such, or for another what"
    private static void duelEdges() {
        DuelDelays x = rich();
        int[][] want = {{0, 1, 13, 0, 1, 1}, {1, 2, 8, -1, 1, 0}, {2, 0, 7, -1, 1, 0}};
        for (int duel = 0; duel < 3; duel++) {
            for (int what = 0; what < 6; what++) {
                C.due("duel(" + duel + ", " + what + ")", x.duel(duel, what), want[duel][what]);
            }
        }
        int[][] wrong = {{-1, 0}, {3, 0}, {LEAST, 0}, {MOST, 0}, {0, -1}, {0, 6}, {2, LEAST}, {2, MOST}};
        for (int[] w : wrong) {
            T.same("duel(" + w[0] + ", " + w[1] + ")", Ways::rich, y -> y.duel(w[0], w[1]), -2);
        }
        x.days(4);
        C.due("FOUGHT, there all the same", x.duel(2, 4), 0);
        C.due("its MORNING", x.duel(2, 2), 7);
    }

    // "whose (NONE)", "0, 1 (each), 2 (all)", "-2 if there is none such, or for another what"
    private static void reasonEdges() {
        DuelDelays x = rich();
        int[][] want = {{0, 0, 0, 999, 0, 0, 0, 1}, {1, -1, 0, 999, 0, 1, 0, 0}, {0, -1, 10, 20, 0, 2, 1, 0},
            {1, 1, 0, 999, 2, 0, 0, 0}, {0, -1, 0, 999, 1, 0, 0, 0}, {0, 1, 0, 999, 9, 0, 0, 0}};
        for (int reason = 0; reason < 6; reason++) {
            for (int what = 0; what < 8; what++) {
                C.due("reason(" + reason + ", " + what + ")", x.reason(reason, what), want[reason][what]);
            }
        }
        int[][] wrong = {{-1, 0}, {6, 0}, {LEAST, 0}, {MOST, 0}, {0, -1}, {0, 8}, {5, LEAST}, {5, MOST}};
        for (int[] w : wrong) {
            T.same("reason(" + w[0] + ", " + w[1] + ")", Ways::rich, y -> y.reason(w[0], w[1]), -2);
        }
        for (int i = 0; i < 2; i++) {
            x.redo();
        }
        C.due("an each, in two DUELS", x.reason(1, 7), 2);
        x.put(1, 0, 1);
        C.due("an each, by both SIDES of one", x.reason(1, 7), 3);
    }

    // ---- WORTH

    private static int worthOf(String formula, int day) {
        String text = men(2, 9) + "kind k " + formula + ";reason r of k;duel a with b on 3;";
        return Checks.land(text).worth(0, 0, day);
    }

    private static void worth(String formula, int want) {
        C.due("WORTH by " + formula, worthOf(formula, 0), want);
    }

    // "1 at least, 365 at most"
    private static void worthBounds() {
        worth("0-9999", 1);
        worth("0-1", 1);
        worth("0", 1);
        worth("1", 1);
        worth("2", 2);
        worth("364", 364);
        worth("365", 365);
        worth("366", 365);
        worth("9999", 365);
        C.due("on 0", worthOf("day+7", 0), 7);
        C.due("on 358", worthOf("day+7", 358), 365);
        C.due("on 359", worthOf("day+7", 359), 365);
        C.due("on 9999", worthOf("day-9900", 9999), 99);
        C.due("on 9901", worthOf("day-9900", 9901), 1);
        C.due("on 9900", worthOf("day-9900", 9900), 1);
    }

    // "(ints, wrapping; / cut, % its rest, both by 0: 0"
    private static void worthOfInts() {
        // 1024 * 1024 * 2048 is the least int
        worth("1024*1024*2048", 1);
        worth("1024*1024*2048-1", 365);
        worth("1024*1024*2048+9", 1);
        worth("(1024*1024*2048-1)/9999/9999+7", 28);
        worth("1024*1024*2048/(0-1)+9", 1);
        worth("1024*1024*2048/(0-1)-1", 365);
        worth("1024*1024*2048%(0-1)+9", 9);
        worth("0-1024*1024*2048", 1);
        worth("1024*1024*4096+5", 5);
        worth("9999*9999*9999+9999*9999*9999", Math.max(1, Math.min(365, 2 * (9999 * 9999 * 9999))));
        worth("7/2", 3);
        worth("8/2", 4);
        worth("(0-7)/2+9", 6);
        worth("7/(0-2)+9", 6);
        worth("(0-7)/(0-2)", 3);
        worth("7%4", 3);
        worth("(0-7)%4+9", 6);
        worth("7%(0-4)", 3);
        worth("(0-7)%(0-4)+9", 6);
        worth("7/0+9", 9);
        worth("0/0+9", 9);
        worth("7%0+9", 9);
        worth("0%0+9", 9);
        worth("(0-7)/0+9", 9);
        worth("(0-7)%0+9", 9);
        worth("7/(3-3)+7%(3-3)+9", 9);
        worth("100/7*7%5", 3);
        worth("100-7-7", 86);
        worth("100-7*7", 51);
    }

    // "relations, and, or, not are 1 or 0, of what is not 0"
    private static void worthOfTruth() {
        String[] signs = {"<", ">", "="};
        for (int a = 2; a <= 4; a++) {
            boolean[] holds = {a < 3, a > 3, a == 3};
            for (int i = 0; i < 3; i++) {
                worth("5*(" + a + signs[i] + "3)+7", holds[i] ? 12 : 7);
            }
        }
        for (int a = 0; a < 3; a++) {
            for (int b = 0; b < 3; b++) {
                worth("5*(" + a + " and " + b + ")+7", a != 0 && b != 0 ? 12 : 7);
                worth("5*(" + a + " or " + b + ")+7", a != 0 || b != 0 ? 12 : 7);
            }
            worth("5*(not " + a + ")+7", a == 0 ? 12 : 7);
            worth("5*(not not " + a + ")+7", a != 0 ? 12 : 7);
        }
        worth("5*(not (0-3))+7", 7);
        worth("5*((0-3) and (0-4))+7", 12);
        worth("5*((0-3) or 0)+7", 12);
        worth("5*((0-3)<0)+7", 12);
        worth("5*(0<(0-3))+7", 7);
        worth("5*((0-3)>(0-4))+7", 12);
        // not is of the whole relation; and binds closer than or
        worth("5*(not 1<2)+7", 7);
        worth("5*(not 2<1)+7", 12);
        worth("5*(1 or 0 and 0)+7", 12);
        worth("5*(not 0 and 0)+7", 7);
        worth("5*(not 0 or 1)+7", 12);
        worth("5*(1+1=2)+7", 12);
        worth("5*(2>1+1)+7", 7);
    }

    // "uses (how many REASONS of that KIND were used in it), spent (how many in all)"
    private static void worthCounts() {
        DuelDelays x = Checks.land(men(3, 90) + "kind k 100*uses+10*spent+1;kind q 1;reason r of k each;reason s of q each;"
            + "reason t of k;duel a with b on 3;duel a with c on 3;");
        C.due("none", x.worth(0, 0, 0), 1);
        x.put(0, 0, 1);
        C.due("one of another KIND", x.worth(0, 0, 0), 11);
        x.put(0, 1, 0);
        C.due("one of each KIND", x.worth(0, 2, 0), 121);
        x.put(0, 0, 0);
        C.due("an each by both SIDES counts twice", x.worth(0, 2, 0), 231);
        C.due("duel(0, 5)", x.duel(0, 5), 3);
        C.due("in another DUEL", x.worth(1, 0, 0), 1);
        C.due("duel(1, 5)", x.duel(1, 5), 0);
        x.put(1, 0, 0);
        C.due("in that DUEL", x.worth(1, 0, 0), 111);
        C.due("not in this one", x.worth(0, 0, 0), 231);
    }

    // "on a DAY (0 .. 9,999), as it is now; NONE if one can't be"
    private static void worthRefused() {
        DuelDelays x = rich();
        C.due("worth(0, 0, 0)", x.worth(0, 0, 0), 5);
        C.due("worth(2, 5, 9999)", x.worth(2, 5, 9999), 5);
        C.due("STRUCK, worth all the same", x.worth(0, 2, 0), 5);
        int[][] wrong = {{0, 0, -1}, {0, 0, 10000}, {0, 0, LEAST}, {0, 0, MOST}, {-1, 0, 0}, {3, 0, 0}, {LEAST, 0, 0},
            {MOST, 0, 0}, {0, -1, 0}, {0, 6, 0}, {0, LEAST, 0}, {0, MOST, 0}};
        for (int[] w : wrong) {
            T.same("worth(" + w[0] + ", " + w[1] + ", " + w[2] + ")", Ways::rich, y -> y.worth(w[0], w[1], w[2]), -1);
        }
        T.same("worth(0, 0, 9999)", Ways::rich, y -> y.worth(0, 0, 9999), 5);
    }

    // ---- MAY

    // "if that is not behind the MORNING, from .. to have it"
    private static void mayOnDays() {
        DuelDelays x = Checks.land(men(2, 99) + "kind k 1;reason r of k from 3 to 5;reason s of k from 4 to 4;"
            + "reason t of k to 0;reason u of k from 7;duel a with b on 8;");
        int[] want = {4, 0, 0, 1, 3, 1, 0, 8};
        for (int day = 0; day < want.length; day++) {
            C.due("may on " + day, x.may(0, 0), want[day]);
            C.due("may on " + day, x.may(0, 1), want[day]);
            x.days(1);
        }
        C.due("on the MORNING it was FOUGHT", x.may(0, 0), 0);
        DuelDelays y = Checks.land(men(2, 999) + "kind k 1;reason r of k from 998 to 999;reason s of k to 997;duel a with b on 999;");
        y.days(400);
        y.days(400);
        y.days(197);
        C.due("on 997", y.may(0, 0), 2);
        y.days(1);
        C.due("on 998", y.may(0, 0), 1);
        C.due("put on 998", y.put(0, 0, 0), 1000);
    }

    // "it is his own, nobody's, or RENTED by him, it is not STRUCK"; "(An own REASON of one who is dead is nobody's more.)"
    private static void mayWhose() {
        DuelDelays x = Checks.land("man a dies 9 coin 1;man b dies 9;man c dies 4;kind k 1;reason r of k by a;reason s of k by b;"
            + "reason t of k by c rent 1;reason u of k;duel a with b on 6;");
        C.due("SIDE 0", x.may(0, 0), 9);
        C.due("SIDE 1", x.may(0, 1), 10);
        x.rent(0, 2);
        C.due("RENTED by SIDE 0", x.may(0, 0), 13);
        C.due("not by SIDE 1", x.may(0, 1), 10);
        x.strike(2);
        x.strike(3);
        C.due("STRUCK", x.may(0, 0), 1);
        x.undo();
        x.undo();
        x.days(3);
        C.due("c is alive", x.may(0, 1), 10);
        C.due("whose", x.reason(2, 1), 2);
        x.days(1);
        C.due("c is dead: nobody's", x.may(0, 1), 14);
        C.due("whose", x.reason(2, 1), -1);
        C.due("used so", x.put(0, 1, 2), 7);
        x.undo();
        x.undo();
        C.due("c is alive again", x.reason(2, 1), 2);
    }

    // "and was not used: all: in any DUEL; each: by this SIDE in this one; else: in this one"
    private static void mayWhatWasUsed() {
        String text = men(4, 90) + "kind k 1;reason r of k;reason s of k each;reason t of k all;duel a with b on 6;"
            + "duel a with c on 6;duel c with d on 6;";
        int[][] want = {{6, 6, 7, 7, 7, 7}, {5, 7, 7, 7, 7, 7}, {3, 3, 3, 3, 3, 3}};
        for (int reason = 0; reason < 3; reason++) {
            DuelDelays x = Checks.land(text);
            x.put(0, 0, reason);
            for (int i = 0; i < 6; i++) {
                C.due("REASON " + reason + " used: DUEL " + i / 2 + ", SIDE " + i % 2, x.may(i / 2, i % 2), want[reason][i]);
            }
            C.due("put again", x.put(0, 0, reason), -1);
            x.undo();
            C.due("taken back", x.may(0, 0), 7);
        }
        // once for all, also if the DUEL is OPEN no more
        DuelDelays y = Checks.land(text);
        y.put(0, 0, 2);
        y.days(7);
        C.due("FOUGHT", y.duel(0, 4), 0);
        DuelDelays z = Checks.land(men(4, 90) + "kind k 1;reason t of k all;duel a with b on 1;duel c with d on 9;");
        z.put(0, 0, 0);
        z.days(2);
        C.due("FOUGHT", z.duel(0, 4), 0);
        C.due("used all the same", z.may(1, 0), 0);
    }

    // "as bits (0 if it is not OPEN); NONE if one can't be"
    private static void mayRefused() {
        int[][] wrong = {{-1, 0}, {3, 0}, {LEAST, 0}, {MOST, 0}, {0, -1}, {0, 2}, {0, LEAST}, {0, MOST}};
        for (int[] w : wrong) {
            T.same("may(" + w[0] + ", " + w[1] + ")", Ways::rich, y -> y.may(w[0], w[1]), -1);
        }
        DuelDelays x = rich();
        C.due("SIDE 0", x.may(0, 0), 2 + 8 + 16);
        C.due("SIDE 1", x.may(0, 1), 2 + 8 + 16 + 32);
        x.days(4);
        C.due("not OPEN", x.duel(2, 4), 0);
        C.due("SIDE 0", x.may(2, 0), 0);
        C.due("SIDE 1", x.may(2, 1), 0);
        C.due("another SIDE of it", x.may(2, 2), -1);
        DuelDelays eight = Checks.land(men(2, 9) + "kind k 1;reason a of k;reason b of k;reason c of k;reason d of k;reason e of k;"
            + "reason f of k;reason g of k;reason h of k;duel a with b on 3;");
        C.due("all eight", eight.may(0, 1), 255);
    }

    // ---- who and when

    // "The next MORNING of OPEN DUELS .. (the first of like ones); NONE without any, or for another what"
    private static void nextEdges() {
        DuelDelays x = Checks.land(men(4, 90) + "kind k 1;reason r of k;duel a with b on 5;duel c with d on 4;duel a with c on 4;");
        C.due("the DAY", x.next(0), 4);
        C.due("the first of like ones", x.next(1), 1);
        x.put(1, 0, 0);
        C.due("the other one of like ones", x.next(1), 2);
        x.put(2, 0, 0);
        C.due("three of like ones", x.next(0), 5);
        C.due("the first", x.next(1), 0);
        for (int what : new int[] {-1, 2, LEAST, MOST}) {
            T.same("next(" + what + ")", Ways::rich, y -> y.next(what), -1);
        }
        DuelDelays none = Checks.land(men(2, 9));
        C.due("none", none.next(0), -1);
        C.due("none", none.next(1), -1);
        DuelDelays past = Checks.land(men(2, 9) + "duel a with b on 3;");
        past.days(3);
        C.due("none OPEN", past.next(0), -1);
        C.due("none OPEN", past.next(1), -1);
    }

    // "(the first living son); NONE if nobody, or there is none such"
    private static void heirEdges() {
        DuelDelays x = Checks.land("man a dies 9;man b dies 3 son a;man c dies 5 son a;man d dies 9 son c;");
        C.due("the first", x.heir(0), 1);
        x.days(3);
        C.due("the first living", x.heir(0), 2);
        x.days(2);
        C.due("no son of a son", x.heir(0), -1);
        C.due("of a dead man", x.heir(2), 3);
        C.due("without son", x.heir(3), -1);
        for (int man : new int[] {-1, 4, LEAST, MOST}) {
            T.same("heir(" + man + ")", Ways::rich, y -> y.heir(man), -1);
        }
    }

    // "REASONS that a MAN MAY use today in some OPEN DUEL of his, as bits; NONE if there is none such"
    private static void hisEdges() {
        DuelDelays x = Checks.land(men(4, 90) + "kind k 1;reason r of k;reason s of k by a;reason t of k by c;duel a with b on 3;"
            + "duel b with c on 5;");
        C.due("a's", x.his(0), 3);
        C.due("b's", x.his(1), 1);
        C.due("c's", x.his(2), 5);
        C.due("without DUEL", x.his(3), 0);
        x.put(0, 0, 0);
        C.due("a's, used in the only one", x.his(0), 2);
        C.due("b's, used in one of two", x.his(1), 1);
        x.days(4);
        C.due("without OPEN one", x.his(0), 0);
        for (int man : new int[] {-1, 4, LEAST, MOST}) {
            T.same("his(" + man + ")", Ways::rich, y -> y.his(man), -1);
        }
    }

    // "(1: his son); 0 if the other one does not come of him; NONE if one can't be"
    private static void comesEdges() {
        DuelDelays x = Checks.land("man a dies 9;man b dies 9 son a;man c dies 9 son b;man d dies 9 son c;man e dies 9 son d;"
            + "man f dies 9 son e;");
        for (int man = 0; man < 6; man++) {
            for (int other = 0; other < 6; other++) {
                C.due("comes(" + man + ", " + other + ")", x.comes(man, other), Math.max(0, other - man));
            }
        }
        int[][] wrong = {{-1, 0}, {4, 0}, {0, -1}, {0, 4}, {LEAST, 0}, {MOST, 0}, {0, LEAST}, {0, MOST}, {4, 4}};
        for (int[] w : wrong) {
            T.same("comes(" + w[0] + ", " + w[1] + ")", Ways::rich, y -> y.comes(w[0], w[1]), -1);
        }
    }

    // ---- ACTS

    // "A REASON is used: the MORNING then"; "HONOUR is his"
    private static void putEdges() {
        DuelDelays x = rich();
        C.due("put(0, 1, 1)", x.put(0, 1, 1), 16);
        C.due("HONOUR", x.duel(0, 3), 1);
        C.due("put(0, 0, 3), RENTED", x.put(0, 0, 3), 20);
        C.due("HONOUR", x.duel(0, 3), 0);
        C.due("how many", x.duel(0, 5), 3);
        C.due("put(0, 0, 4), a dead man's", x.put(0, 0, 4), 25);
        C.due("ACTS", x.about(9), 8);
        C.due("none to be redone", x.about(10), 0);
        C.due("the other DUELS stay", x.duel(1, 2), 8);
    }

    // "(9,999, if it would be later)": no DUEL can be put so far, as REASONS end on DAY 999: this is the farthest
    private static void greatestMorning() {
        StringBuilder s = new StringBuilder("man a dies 999;man b dies 999;kind k 9999;honour 99;");
        for (int i = 0; i < 8; i++) {
            s.append("reason ").append((char) ('a' + i)).append(" of k each;");
        }
        DuelDelays x = Checks.land(s.toString());
        x.days(400);
        x.days(400);
        x.days(198);
        C.due("insult on 998", x.insult(0, 1), 0);
        for (int i = 0; i < 16; i++) {
            C.due("put " + i, x.put(0, i % 2, i / 2), 998 + 99 + 365 * (i + 1));
        }
        C.due("WORTH of the last", x.log(15, 4), 365);
        C.due("none is left", x.may(0, 0) + x.may(0, 1), 0);
        C.due("they die ahead of it", x.days(1), 999);
        C.due("not OPEN", x.duel(0, 4), 0);
        C.due("the MORNING stays", x.duel(0, 2), 998 + 99 + 365 * 16);
    }

    // "NONE, doing nothing, if he MAY not, it is not OPEN, or one can't be"
    private static void putRefused() {
        int[][] wrong = {{-1, 0, 0}, {3, 0, 1}, {LEAST, 0, 1}, {MOST, 0, 1}, {0, -1, 1}, {0, 2, 1}, {0, LEAST, 1}, {0, MOST, 1},
            {0, 0, -1}, {0, 0, 6}, {0, 0, LEAST}, {0, 0, MOST},
            // used; STRUCK; another's; not RENTED by him
            {0, 0, 0}, {0, 1, 0}, {0, 0, 2}, {0, 0, 5}, {1, 1, 3}, {1, 0, 0}};
        for (int[] w : wrong) {
            T.same("put(" + w[0] + ", " + w[1] + ", " + w[2] + ")", Ways::rich, y -> y.put(w[0], w[1], w[2]), -1);
        }
        T.same("put when it is not OPEN", x -> {
            Ways.rich(x);
            x.days(4);
            x.undo();
            x.redo();
        }, x -> x.put(2, 0, 1), -1);
        String text = men(2, 90) + "kind k 1;reason r of k from 3 to 5;duel a with b on 9;";
        T.same("put ahead of from", x -> ahead(x, text, 2), x -> x.put(0, 0, 0), -1);
        T.same("put behind to", x -> ahead(x, text, 6), x -> x.put(0, 0, 0), -1);
        DuelDelays x = new DuelDelays();
        ahead(x, text, 3);
        C.due("put on from", x.put(0, 0, 0), 10);
        DuelDelays y = new DuelDelays();
        ahead(y, text, 5);
        C.due("put on to", y.put(0, 0, 0), 10);
    }

    private static void ahead(DuelDelays x, String text, int days) {
        Checks.code(x, text);
        x.days(days);
    }

    private static final String LENDERS = "man a dies 9 coin 5;man b dies 20 coin 99;man c dies 20 coin 5;kind k 1;"
        + "reason r of k by b rent 5;reason s of k by b rent 1;reason t of k by c;reason u of k;reason v of k by a rent 99;";

    // "his coin then"; "for its rent (from his coin to that one's)"; "has not so much"
    private static void rentEdges() {
        DuelDelays x = Checks.land(LENDERS);
        C.due("all that he has", x.rent(0, 0), 0);
        C.due("that one's coin", x.man(1, 1), 104);
        C.due("what he RENTED", x.man(0, 4), 1);
        C.due("one that costs nothing", x.rent(0, 2), 0);
        C.due("what he RENTED", x.man(0, 4), 5);
        C.due("has not so much", x.rent(0, 1), -1);
        C.due("the owner RENTS one of his", x.rent(1, 4), 5);
        C.due("a's coin", x.man(0, 1), 99);
        C.due("one that another RENTED, too", x.rent(2, 0), 0);
        C.due("both have RENTED it", x.man(0, 4) & x.man(2, 4), 1);
        C.due("now he has so much", x.rent(0, 1), 98);
        C.due("what he RENTED", x.man(0, 4), 7);
        DuelDelays y = Checks.land("man a dies 9 coin 999;man b dies 9 coin 999;kind k 1;reason r of k by b rent 99;");
        C.due("rent(0, 0)", y.rent(0, 0), 900);
        C.due("coins above 999", y.man(1, 1), 1098);
    }

    // "NONE, doing nothing, if it is not a living other one's, he is dead, has RENTED it, has not so much, or one can't be"
    private static void rentRefused() {
        int[][] wrong = {{-1, 3}, {4, 3}, {LEAST, 3}, {MOST, 3}, {1, -1}, {1, 6}, {1, LEAST}, {1, MOST},
            // his own; nobody's; a dead one's; has RENTED it; has not so much; he is dead
            {0, 0}, {1, 3}, {0, 1}, {0, 4}, {1, 4}, {0, 3}, {0, 5}, {2, 3}, {3, 0}, {3, 3}};
        for (int[] w : wrong) {
            T.same("rent(" + w[0] + ", " + w[1] + ")", Ways::rich, y -> y.rent(w[0], w[1]), -1);
        }
        DuelDelays x = Checks.land("man a dies 9 coin 4;man b dies 9;kind k 1;reason r of k by b rent 5;reason s of k by b rent 4;");
        C.due("one coin too few", x.rent(0, 0), -1);
        C.due("just so many", x.rent(0, 1), 0);
    }

    // "true; false, doing nothing, if it is so already, or there is none such"
    private static void strikeEdges() {
        for (int reason : new int[] {-1, 6, 2, LEAST, MOST, 32}) {
            T.sameBit("strike(" + reason + ")", Ways::rich, y -> y.strike(reason), false);
        }
        DuelDelays x = Checks.land(men(2, 9) + "kind k 1;reason a of k;reason b of k;reason c of k;reason d of k;reason e of k;"
            + "reason f of k;reason g of k;reason h of k;duel a with b on 3;");
        for (int reason = 0; reason < 8; reason++) {
            C.due("strike(" + reason + ")", x.strike(reason), true);
            C.due("MAY", x.may(0, 0), 255 & ~((2 << reason) - 1));
            C.due("again", x.strike(reason), false);
        }
        C.due("ACTS", x.about(9), 8);
        x.undo();
        C.due("STRUCK no more", x.reason(7, 6), 0);
        C.due("strike(7)", x.strike(7), true);
        C.due("used ones, too", rich().strike(0), true);
    }

    // "two have a new DUEL, honour DAYS from now"; "(the first one is SIDE 0): the DUEL"
    private static void insultEdges() {
        DuelDelays x = Checks.land(men(3, 90) + "honour 1;");
        C.due("insult(2, 0)", x.insult(2, 0), 0);
        int[] want = {2, 0, 1, -1, 1, 0};
        for (int what = 0; what < want.length; what++) {
            C.due("duel(0, " + what + ")", x.duel(0, what), want[what]);
        }
        x.days(1);
        C.due("FOUGHT on the next DAY", x.duel(0, 4), 0);
        // late DAYS: nobody lives then, but on 998
        DuelDelays y = Checks.land(men(2, 999) + "honour 99;");
        y.days(400);
        y.days(400);
        y.days(198);
        C.due("insult on 998", y.insult(1, 0), 0);
        C.due("its MORNING", y.duel(0, 2), 1097);
        y.days(1);
        C.due("insult on 999", y.insult(1, 0), -1);
    }

    // "(8 DUELS at most; ..)": those that are OPEN no more count, too
    private static void eightDuels() {
        DuelDelays x = Checks.land(men(6, 90) + "duel a with b on 1;duel c with d on 1;duel a with c on 5;duel a with d on 5;"
            + "duel b with c on 5;duel b with d on 5;honour 2;");
        x.days(1);
        C.due("two are not OPEN", x.about(3) - x.about(7) >= 2, true);
        C.due("the seventh", x.insult(4, 5), 6);
        int living = x.man(0, 0) == 1 ? 0 : 1;
        C.due("shun with seven", x.shun(4) >= 0, true);
        C.due("the eighth", x.insult(4, living), 7);
        C.due("DUELS", x.about(3), 8);
        C.due("a ninth", x.insult(5, living), -1);
        C.due("shun with eight", x.shun(4), -1);
        x.days(2);
        C.due("a ninth, none OPEN of them", x.insult(5, living), -1);
        for (int i = 0; i < 2; i++) {
            x.undo();
        }
        C.due("the eighth again", x.insult(5, living), 7);
        T.same("a ninth", y -> {
            Checks.code(y, men(6, 90));
            for (int i = 0; i < 5; i++) {
                y.insult(0, i + 1);
            }
            y.insult(1, 2);
            y.insult(1, 3);
            y.insult(1, 4);
            y.undo();
            y.redo();
        }, y -> y.insult(1, 5), -1);
    }

    // "NONE, doing nothing, if it can't be (one is dead, too)"; "they have no OPEN one"
    private static void insultRefused() {
        int[][] wrong = {{-1, 0}, {4, 0}, {0, -1}, {0, 4}, {LEAST, 0}, {MOST, 0}, {0, LEAST}, {0, MOST}, {0, 0}, {1, 1}, {0, 1},
            {1, 0}, {1, 2}, {2, 1}, {2, 0}, {0, 2}, {3, 0}, {0, 3}, {3, 3}};
        for (int[] w : wrong) {
            T.same("insult(" + w[0] + ", " + w[1] + ")", Ways::rich, y -> y.insult(w[0], w[1]), -1);
        }
    }

    // "DAYS (0 .. 400) go by: the DAY; NONE, doing nothing, for another number, or if it would be above 9,000"
    private static void daysEdges() {
        DuelDelays x = Checks.land(men(2, 9));
        C.due("days(0)", x.days(0), 0);
        C.due("an ACT", x.about(9), 1);
        C.due("days(400)", x.days(400), 400);
        for (int i = 2; i <= 22; i++) {
            C.due("days(400)", x.days(400), 400 * i);
        }
        C.due("days(201): 9001", x.days(201), -1);
        C.due("days(199)", x.days(199), 8999);
        C.due("days(2): 9001", x.days(2), -1);
        C.due("days(1)", x.days(1), 9000);
        C.due("days(1): 9001", x.days(1), -1);
        C.due("days(0)", x.days(0), 9000);
        C.due("ACTS", x.about(9), 26);
    }

    private static void daysRefused() {
        for (int n : new int[] {-1, 401, LEAST, MOST}) {
            T.same("days(" + n + ")", Ways::rich, y -> y.days(n), -1);
        }
        for (int n : new int[] {1, 400}) {
            T.same("days(" + n + ") on 9000", x -> {
                Checks.code(x, men(2, 9));
                for (int i = 0; i < 22; i++) {
                    x.days(400);
                }
                x.days(200);
                x.days(0);
                x.undo();
            }, x -> x.days(n), -1);
        }
    }

    // "on each, first those who die on it, by number; then OPEN DUELS of that MORNING"
    private static void deathAheadOfFight() {
        for (int dies = 4; dies <= 6; dies++) {
            DuelDelays x = Checks.land("man a dies " + dies + ";man b dies 90;duel a with b on 5;draw 0;");
            x.days(5);
            C.due("a dies on " + dies + ": the SEED", x.about(5), dies > 5 ? 71 : 0);
            C.due("a dies on " + dies + ": OPEN", x.about(7), 0);
            C.due("a dies on " + dies + ": who lives", x.about(6), dies > 5 ? 1 : 2);
        }
        // each DAY by itself, be they told at once or one by one
        String text = "man a dies 3;man b dies 90;man c dies 5 son a;man d dies 90 son c;duel a with b on 4;duel d with b on 6;";
        DuelDelays x = Checks.land(text);
        DuelDelays y = Checks.land(text);
        x.days(7);
        for (int i = 0; i < 7; i++) {
            y.days(1);
        }
        C.due("the SEED", x.about(5), y.about(5));
        C.due("who lives", x.about(6), y.about(6));
        C.due("on 4 the SEED was 71, b fell; d's is OPEN no more", x.about(6), 8);
        C.due("one fight", x.about(5), 71);
    }

    // "the SEED becomes its 137-fold and 71 more, modulo 1,000; SIDE 0 dies, if it is even, else SIDE 1"
    private static void fights() {
        for (int draw : new int[] {0, 1, 6, 7, 999, 998, 500, 137}) {
            DuelDelays x = Checks.land(men(6, 90) + "duel a with b on 2;duel c with d on 2;duel e with f on 3;draw " + draw + ";");
            int seed = draw;
            int alive = 63;
            for (int i = 0; i < 3; i++) {
                seed = (seed * 137 + 71) % 1000;
                alive &= ~(1 << (2 * i + seed % 2));
            }
            x.days(1);
            C.due("none on the DAY ahead", x.about(5), draw);
            x.days(2);
            C.due("the SEED behind three of draw " + draw, x.about(5), seed);
            C.due("who lives behind three of draw " + draw, x.about(6), alive);
            C.due("OPEN", x.about(7), 0);
        }
    }

    // "all OPEN DUELS, by number, go to his first living son (who has his SIDE then)"
    private static void inheriting() {
        DuelDelays x = Checks.land("man a dies 2;man b dies 90;man c dies 90;man d dies 1 son a;man e dies 90 son a;man f dies 90 son a;"
            + "kind k 1;reason r of k each;reason s of k by e;duel a with b on 5;duel c with a on 5;");
        x.put(0, 0, 0);
        x.days(1);
        C.due("the son dies ahead", x.about(6), 63 - 8);
        x.days(1);
        C.due("SIDE 0", x.duel(0, 0), 4);
        C.due("SIDE 1", x.duel(1, 1), 4);
        C.due("the others keep theirs", x.duel(0, 1), 1);
        C.due("the others keep theirs", x.duel(1, 0), 2);
        C.due("OPEN", x.about(7), 2);
        C.due("the MORNING stays", x.duel(0, 2), 6);
        C.due("his SIDE has used r, he has s", x.may(0, 0), 2);
        C.due("in the other one he has both", x.may(1, 1), 3);
        C.due("what he RENTED is not inherited", x.man(4, 4), 0);
        C.due("nor HONOUR", x.duel(0, 3), 0);
        x.put(0, 0, 1);
        C.due("HONOUR is the son's", x.duel(0, 3), 4);
        C.due("who began", x.began(0), 0);
        x.undo();
        x.undo();
        C.due("taken back", x.duel(0, 0), 0);
    }

    // "if that is not the other one, and has no OPEN one with him; else they are OPEN no more"
    private static void whoDoesNotInherit() {
        String men = "man a dies 2;man b dies 90 son a;man c dies 90 son a;man d dies 90;man e dies 90;";
        DuelDelays other = Checks.land(men + "duel a with b on 5;duel a with d on 5;");
        other.days(2);
        C.due("the heir is the other one: the next son does not", other.duel(0, 4), 0);
        C.due("SIDES stay", other.duel(0, 0), 0);
        C.due("the next DUEL goes to him", other.duel(1, 0), 1);
        C.due("OPEN", other.duel(1, 4), 1);
        DuelDelays open = Checks.land(men + "duel a with d on 5;duel d with b on 7;duel a with e on 7;");
        open.days(2);
        C.due("the heir has an OPEN one", open.duel(0, 4), 0);
        C.due("SIDES stay", open.duel(0, 0), 0);
        C.due("his own stays", open.duel(1, 4), 1);
        C.due("the other one goes to him", open.duel(2, 0), 1);
        // the same from SIDE 1
        DuelDelays turned = Checks.land(men + "duel b with a on 5;duel e with a on 7;duel d with a on 5;duel e with c on 9;"
            + "duel d with b on 7;");
        turned.days(2);
        C.due("the heir is the other one", turned.duel(0, 4), 0);
        C.due("the heir has an OPEN one", turned.duel(2, 4), 0);
        C.due("SIDES stay", turned.duel(0, 1) + turned.duel(2, 1), 0);
        C.due("his own stays", turned.duel(4, 4), 1);
        C.due("the other one goes to him", turned.duel(1, 1), 1);
        C.due("OPEN", turned.duel(1, 4), 1);
        DuelDelays none = Checks.land("man a dies 2;man d dies 90;duel a with d on 5;");
        none.days(2);
        C.due("no son", none.duel(0, 4), 0);
        // 208: d fell; 567: e fell, and a's DUEL with him is OPEN no more
        DuelDelays past = Checks.land(men + "duel d with b on 1;duel a with e on 5;duel b with e on 1;draw 1;");
        past.days(1);
        C.due("who lives", past.about(6), 7);
        C.due("OPEN", past.about(7), 0);
        C.due("SIDES stay", past.duel(1, 1), 4);
        // the fallen one's DUELS go to his son on the same MORNING
        DuelDelays same = Checks.land("man a dies 90;man b dies 90;man c dies 90;man d dies 90 son a;duel a with b on 3;"
            + "duel a with c on 3;draw 7;");
        same.days(3);
        C.due("30: a fell, then 181: c fell to d", same.about(6), 2 + 8);
        C.due("d has SIDE 0", same.duel(1, 0), 3);
        C.due("the FOUGHT one stays a's", same.duel(0, 0), 0);
    }

    // "UNDO takes back the latest ACT that was not"; "true; false if there is none"
    private static void undoEdges() {
        T.sameBit("undo of none", x -> {
            Ways.rich(x);
            for (int i = 0; i < 5; i++) {
                C.due("undo", x.undo(), true);
            }
        }, DuelDelays::undo, false);
        T.sameBit("undo behind code", x -> Checks.code(x, Ways.LAND), DuelDelays::undo, false);
        T.sameBit("undo behind back", x -> {
            Ways.rich(x);
            x.back(1);
        }, DuelDelays::undo, false);
        T.sameBit("redo behind back", x -> {
            Ways.rich(x);
            x.back(1);
        }, DuelDelays::redo, false);
        DuelDelays x = rich();
        int[] acts = {5, 4, 3, 2, 1, 0};
        for (int i = 0; i < acts.length; i++) {
            C.due("to be undone", x.about(9), acts[i]);
            C.due("to be redone", x.about(10), 7 - acts[i]);
            C.due("undo", x.undo(), i < 5);
        }
        C.due("the DAY", x.about(4), 0);
        C.due("the LOG", x.about(8), 0);
        C.due("alive", x.about(6), 15);
        C.due("SIGHTS are no ACTS", x.about(11), 2);
        C.due("what lies there stays", x.about(15), 1);
    }

    // "40 at most are kept, the oldest go"
    private static void fortyActs() {
        for (int acts : new int[] {39, 40, 41, 42, 81, 200}) {
            DuelDelays x = Checks.land(men(2, 9));
            for (int i = 0; i < acts; i++) {
                x.days(1);
            }
            int kept = Math.min(40, acts);
            C.due(acts + " ACTS: kept", x.about(9), kept);
            for (int i = 0; i < kept; i++) {
                C.due("undo", x.undo(), true);
                C.due("the DAY", x.about(4), acts - i - 1);
            }
            C.due("undo of none", x.undo(), false);
            C.due("to be redone", x.about(10), kept);
            for (int i = 0; i < kept; i++) {
                C.due("redo", x.redo(), true);
                C.due("the DAY", x.about(4), acts - kept + i + 1);
            }
            C.due("redo of none", x.redo(), false);
            x.undo();
            x.undo();
            x.days(3);
            C.due("another ACT: kept", x.about(9), kept - 1);
            C.due("another ACT: to be redone", x.about(10), 0);
        }
    }

    // "REDO does that again which was taken back last (till another ACT)"; "true; false if there is none"
    private static void redoEdges() {
        T.sameBit("redo of none", x -> {
            Ways.rich(x);
            C.due("redo", x.redo(), true);
            C.due("redo", x.redo(), true);
        }, DuelDelays::redo, false);
        T.sameBit("redo behind code", x -> Checks.code(x, Ways.LAND), DuelDelays::redo, false);
        String[] acts = {"put", "rent", "strike", "insult", "days", "days(0)"};
        for (int i = 0; i < acts.length; i++) {
            DuelDelays x = rich();
            x.undo();
            C.due("to be redone", x.about(10), 3);
            int done = i == 0 ? x.put(0, 0, 1) : i == 1 ? x.rent(1, 0) : i == 2 ? (x.strike(0) ? 1 : -1)
                : i == 3 ? x.insult(0, 2) : i == 4 ? x.days(1) : x.days(0);
            C.due(acts[i] + " is done", done >= 0, true);
            C.due(acts[i] + ": none to be redone", x.about(10), 0);
            C.due(acts[i] + ": redo", x.redo(), false);
            C.due(acts[i] + ": to be undone", x.about(9), 5);
        }
        DuelDelays x = rich();
        C.due("redo", x.redo(), true);
        C.due("c's flu first", x.duel(1, 2), 11);
        C.due("a's not yet", x.duel(0, 2), 13);
        C.due("redo", x.redo(), true);
        C.due("then a's", x.duel(0, 2), 16);
        C.due("the LOG", x.log(2, 1), 0);
        // no ACTS, which leave what can be redone
        DuelDelays y = rich();
        y.image(2);
        y.sight(0, 1);
        y.untell(0);
        y.later(1);
        y.life(0);
        y.late(0, 2);
        y.hire(0, 0);
        y.part(0);
        y.falses(3);
        y.feed(0, 0, 0, 0, 0);
        y.end(0);
        C.due("to be redone", y.about(10), 2);
        C.due("to be undone", y.about(9), 5);
    }
}
