/** The edges that '==== 4' of the document and the promises 30 to 38 name; above each test stands its sentence. */
public final class RecordEdgesTest {
    private static final Checks C = new Checks();
    private static final Twins T = new Twins(C);
    private static final int LEAST = Integer.MIN_VALUE;
    private static final int MOST = Integer.MAX_VALUE;

    public static void main(String[] args) {
        logEdges();
        sixtyLines();
        logIsUndone();
        beganEdges();
        sightEdges();
        thirtySights();
        sightRefused();
        untellEdges();
        laterEdges();
        laterRefused();
        knownAt();
        falseOnALaterDay();
        firstEightLie();
        imageEdges();
        imageKeeps();
        backEdges();
        backRefused();
        aboutEdges();
        C.finish("RecordEdgesTest");
    }

    /** Eight REASONS for each SIDE, and five DUELS: 80 that may be used today. */
    private static DuelDelays many() {
        StringBuilder s = new StringBuilder();
        for (int i = 0; i < 6; i++) {
            s.append("man ").append((char) ('a' + i)).append(" dies 99;");
        }
        s.append("kind k 1+spent;");
        for (int i = 0; i < 8; i++) {
            s.append("reason ").append((char) ('a' + i)).append(" of k each;");
        }
        for (int i = 1; i < 6; i++) {
            s.append("duel a with ").append((char) ('a' + i)).append(" on ").append(50 + i).append(';');
        }
        return Checks.land(s.toString());
    }

    private static void use(DuelDelays x, int from, int to) {
        for (int i = from; i < to; i++) {
            C.due("put " + i, x.put(i / 16, i % 2, i % 16 / 2) > 0, true);
        }
    }

    private static DuelDelays rich() {
        DuelDelays x = new DuelDelays();
        Ways.rich(x);
        return x;
    }

    // ---- the LOG

    // "what 0: DUEL, 1: MAN, 2: REASON, 3: DAY, 4: WORTH; NONE if there is none such, or for another what"
    private static void logEdges() {
        DuelDelays x = rich();
        x.redo();
        x.redo();
        int[][] want = {{0, 0, 0, 0, 5}, {1, 2, 1, 3, 3}, {0, 0, 1, 3, 3}};
        for (int i = 0; i < want.length; i++) {
            for (int what = 0; what < 5; what++) {
                C.due("log(" + i + ", " + what + ")", x.log(i, what), want[i][what]);
            }
        }
        C.due("log(3, 0)", x.log(3, 0), -1);
        int[][] wrong = {{-1, 0}, {1, 0}, {LEAST, 0}, {MOST, 0}, {60, 0}, {0, -1}, {0, 5}, {0, LEAST}, {0, MOST}};
        for (int[] w : wrong) {
            T.same("log(" + w[0] + ", " + w[1] + ")", Ways::rich, y -> y.log(w[0], w[1]), -1);
        }
        // the WORTH itself, also if it is cut to its bounds
        DuelDelays y = Checks.land("man a dies 9;man b dies 9;kind k 366;kind q 0;reason r of k;reason s of q;duel a with b on 3;");
        y.put(0, 0, 0);
        y.put(0, 1, 1);
        C.due("365 at most", y.log(0, 4), 365);
        C.due("1 at least", y.log(1, 4), 1);
    }

    // "In the LOG are REASONS used (the first 60)"
    private static void sixtyLines() {
        DuelDelays x = many();
        use(x, 0, 59);
        C.due("59 lines", x.about(8), 59);
        C.due("log(59, 0)", x.log(59, 0), -1);
        use(x, 59, 60);
        C.due("60 lines", x.about(8), 60);
        C.due("log(59, 0)", x.log(59, 0), 3);
        C.due("log(59, 1)", x.log(59, 1), 4);
        C.due("log(59, 4)", x.log(59, 4), 12);
        use(x, 60, 61);
        C.due("60 lines all the same", x.about(8), 60);
        C.due("the 60th stays", x.log(59, 4), 12);
        C.due("log(60, 0)", x.log(60, 0), -1);
        C.due("it was used", x.duel(3, 5), 13);
        x.undo();
        C.due("60 lines", x.about(8), 60);
        x.undo();
        C.due("59 lines", x.about(8), 59);
        x.redo();
        x.redo();
        C.due("60 lines", x.about(8), 60);
        use(x, 61, 80);
        C.due("60 lines", x.about(8), 60);
        C.due("began, by the LOG", x.began(3), 0);
        C.due("put off, but not in the LOG", x.began(4), -1);
        C.due("its HONOUR", x.duel(4, 3), 5);
        C.due("the first line", x.log(0, 4), 1);
    }

    private static void logIsUndone() {
        DuelDelays x = rich();
        C.due("one line", x.about(8), 1);
        x.put(1, 0, 5);
        C.due("another behind an undone one", x.log(1, 2), 5);
        C.due("lines", x.about(8), 2);
        x.undo();
        C.due("lines", x.about(8), 1);
        C.due("gone", x.log(1, 2), -1);
        x.back(0);
        C.due("as it was kept", x.about(8), 0);
        C.due("gone", x.log(0, 2), -1);
    }

    // "The first MAN who put a DUEL off (NONE), by the LOG; -2 if there is none such"
    private static void beganEdges() {
        DuelDelays x = rich();
        C.due("a", x.began(0), 0);
        C.due("nobody yet", x.began(1), -1);
        x.redo();
        C.due("c", x.began(1), 2);
        x.put(1, 0, 5);
        C.due("c, not b", x.began(1), 2);
        C.due("a DUEL by INSULT", x.began(2), -1);
        x.put(2, 1, 1);
        C.due("SIDE 1 of it", x.began(2), 0);
        for (int duel : new int[] {-1, 3, LEAST, MOST}) {
            T.same("began(" + duel + ")", Ways::rich, y -> y.began(duel), -2);
        }
    }

    // ---- SIGHTS

    // "(a DAY 0 .. 9,000): its number"
    private static void sightEdges() {
        DuelDelays x = rich();
        C.due("DAY 0", x.sight(0, 0), 2);
        C.due("DAY 9,000", x.sight(5, 9000), 3);
        C.due("a DAY to come", x.about(4) < 9000, true);
        C.due("SIGHTS", x.about(11), 4);
        C.due("a STRUCK one", x.sight(2, 1), 4);
        C.due("ACTS", x.about(9), 5);
        x.undo();
        C.due("undone is an ACT, no SIGHT", x.about(11), 5);
        x.back(0);
        C.due("nor by a BOX", x.about(11), 5);
    }

    // "SIGHTS, 30 at most": UNTOLD ones count
    private static void thirtySights() {
        DuelDelays x = rich();
        for (int i = 2; i < 30; i++) {
            C.due("sight " + i, x.sight(1, i), i);
        }
        C.due("SIGHTS", x.about(11), 30);
        C.due("a 31st", x.sight(1, 5), -1);
        C.due("untell(29)", x.untell(29), true);
        C.due("a 31st", x.sight(1, 5), -1);
        C.due("SIGHTS", x.about(11), 30);
        T.same("a 31st", y -> {
            Ways.rich(y);
            for (int i = 2; i < 30; i++) {
                y.sight(1, 4);
            }
        }, y -> y.sight(0, 4), -1);
    }

    // "NONE, doing nothing, if one can't be, or there are 30"
    private static void sightRefused() {
        int[][] wrong = {{-1, 4}, {6, 4}, {LEAST, 4}, {MOST, 4}, {0, -1}, {0, 9001}, {0, LEAST}, {0, MOST}};
        for (int[] w : wrong) {
            T.same("sight(" + w[0] + ", " + w[1] + ")", Ways::rich, y -> y.sight(w[0], w[1]), -1);
        }
    }

    // "It is UNTOLD: true; false if it is so already, or there is none such"
    private static void untellEdges() {
        for (int sight : new int[] {-1, 2, 1, LEAST, MOST, 30}) {
            T.sameBit("untell(" + sight + ")", Ways::rich, y -> y.untell(sight), false);
        }
        DuelDelays x = rich();
        C.due("untell(0)", x.untell(0), true);
        C.due("untell(0) again", x.untell(0), false);
        x.later(1);
        C.due("untell(0) later", x.untell(0), false);
        C.due("UNTOLD at 7, not later", x.falses(7), 0);
        C.due("SIGHTS", x.about(11), 2);
    }

    // "So much later (0 .. 1000): the TIME"
    private static void laterEdges() {
        DuelDelays x = new DuelDelays();
        C.due("TIME 0", x.about(12), 0);
        C.due("later(0)", x.later(0), 0);
        C.due("later(1000)", x.later(1000), 1000);
        C.due("later(1001)", x.later(1001), -1);
        for (int i = 2; i < 100; i++) {
            C.due("later(1000)", x.later(1000), 1000 * i);
        }
        C.due("later(1)", x.later(1), 99001);
        C.due("later(1000): 100,001", x.later(1000), -1);
        C.due("later(999): 100,000", x.later(999), 100000);
        C.due("later(1): 100,001", x.later(1), -1);
        C.due("later(0)", x.later(0), 100000);
        C.due("TIME", x.about(12), 100000);
        C.due("code", x.code(), 0);
        C.due("the TIME stays", x.about(12), 100000);
    }

    // "NONE, doing nothing, for another number, or if it would be above 100,000"
    private static void laterRefused() {
        for (int by : new int[] {-1, 1001, LEAST, MOST}) {
            T.same("later(" + by + ")", Ways::rich, y -> y.later(by), -1);
        }
        T.same("later(1) at 100,000", x -> {
            Ways.rich(x);
            for (int i = 0; i < 99; i++) {
                x.later(1000);
            }
            x.later(993);
        }, x -> x.later(1), -1);
    }

    // "As known at k those count that were TOLD at k or before, not UNTOLD at k or before"
    private static void knownAt() {
        DuelDelays x = rich();
        // of jane, used on 0: seen on 9, TOLD at 5
        int[] at = {LEAST, -1, 0, 4, 5, 6, 7, 8, 100, MOST};
        for (int k : at) {
            C.due("falses(" + k + ")", x.falses(k), k >= 5 ? 1 : 0);
            C.due("what lies there", x.about(15), k >= 5 ? 1 : 0);
        }
        x.later(2);
        x.untell(0);
        for (int k : at) {
            C.due("UNTOLD at 9: falses(" + k + ")", x.falses(k), k >= 5 && k < 9 ? 1 : 0);
        }
        C.due("falses(8)", x.falses(8), 1);
        C.due("falses(9)", x.falses(9), 0);
        // TOLD and UNTOLD at one TIME: it never counts
        int sight = x.sight(0, 9);
        x.untell(sight);
        C.due("falses(8)", x.falses(8), 1);
        C.due("falses(9)", x.falses(9), 0);
        C.due("falses(10)", x.falses(10), 0);
        // TOLD again
        x.later(1);
        x.sight(0, 1);
        C.due("falses(9)", x.falses(9), 0);
        C.due("falses(10)", x.falses(10), 1);
        // two SIGHTS of one line are one line
        x.sight(0, 2);
        C.due("falses(10)", x.falses(10), 1);
    }

    // "LOG's lines of a REASON that, by a SIGHT that counts, was alive on a later DAY than it was used"
    private static void falseOnALaterDay() {
        for (int day = 2; day <= 4; day++) {
            DuelDelays x = rich();
            x.redo();
            x.redo();
            // flu, used on 3 in two DUELS
            x.sight(1, day);
            C.due("flu seen on " + day, x.falses(7), day > 3 ? 3 : 1);
            if (day > 3) {
                C.due("lies(1)", x.lies(1), 1);
                C.due("lies(2)", x.lies(2), 2);
            }
            x.undo();
            C.due("the LOG as it is now", x.falses(7), day > 3 ? 2 : 1);
        }
        DuelDelays y = rich();
        y.sight(5, 9000);
        C.due("never used", y.falses(7), 1);
    }

    // "how many lines. The first eight of them lie there then."
    private static void firstEightLie() {
        for (int puts = 7; puts <= 10; puts++) {
            DuelDelays x = many();
            use(x, 0, puts);
            for (int reason = 0; reason < 8; reason++) {
                x.sight(reason, 1);
            }
            C.due(puts + " lines", x.falses(0), puts);
            C.due("lie there", x.about(15), Math.min(8, puts));
            for (int i = 0; i < 10; i++) {
                C.due("lies(" + i + ")", x.lies(i), i < Math.min(8, puts) ? i : -1);
            }
        }
        DuelDelays x = many();
        use(x, 0, 80);
        x.sight(0, 1);
        x.sight(7, 1);
        C.due("sixteen lines less those that are not in the LOG", x.falses(0), 8 + 6);
        int[] want = {0, 1, 14, 15, 16, 17, 30, 31};
        for (int i = 0; i < want.length; i++) {
            C.due("lies(" + i + ")", x.lies(i), want[i]);
        }
        C.due("falses of none", x.falses(-1), 0);
        C.due("nothing lies there", x.about(15), 0);
        T.same("falses", Ways::rich, y -> y.falses(7), 1);
    }

    // ---- BOXES

    // "in a BOX 0 .. 2: the DAY; NONE if there is none such"
    private static void imageEdges() {
        DuelDelays x = rich();
        for (int box = 0; box < 3; box++) {
            C.due("image(" + box + ")", x.image(box), 3);
        }
        for (int box : new int[] {-1, 3, LEAST, MOST, 32}) {
            T.same("image(" + box + ")", Ways::rich, y -> y.image(box), -1);
        }
        C.due("no ACT", x.about(9), 5);
        C.due("what can be redone stays", x.about(10), 2);
    }

    // "MEN, coins, DUELS, what was used, RENTED, STRUCK, the LOG, DAY, SEED are kept"
    private static void imageKeeps() {
        DuelDelays x = rich();
        x.redo();
        x.redo();
        x.days(4);
        C.due("DUEL 2 was FOUGHT", x.duel(2, 4), 0);
        int[] about = new int[16];
        for (int what = 0; what < 16; what++) {
            about[what] = x.about(what);
        }
        C.due("image(2)", x.image(2), 7);
        C.due("back(0)", x.back(0), 0);
        C.due("all live", x.about(6), 15);
        C.due("coin", x.man(0, 1), 5);
        C.due("RENTED", x.man(0, 4), 0);
        C.due("STRUCK", x.reason(2, 6), 0);
        C.due("MORNING", x.duel(0, 2), 8);
        C.due("DUELS", x.about(3), 2);
        C.due("SEED", x.about(5), 7);
        C.due("the LOG", x.about(8), 0);
        x.later(3);
        x.sight(3, 3);
        C.due("back(2)", x.back(2), 7);
        for (int what = 0; what < 9; what++) {
            C.due("about(" + what + ")", x.about(what), about[what]);
        }
        C.due("no ACTS", x.about(9), 0);
        C.due("none to be redone", x.about(10), 0);
        C.due("SIGHTS stay", x.about(11), 3);
        C.due("the TIME stays", x.about(12), 10);
        C.due("the TAPE stays", x.about(13), 20);
        C.due("what lies there stays", x.about(15), 1);
        C.due("coin", x.man(0, 1), 3);
        C.due("RENTED", x.man(0, 4), 8);
        C.due("STRUCK", x.reason(2, 6), 1);
        C.due("MORNING", x.duel(0, 2), 16);
        C.due("HONOUR", x.duel(1, 3), 2);
        C.due("used", x.may(0, 0), 8 + 16);
        C.due("the LOG", x.log(2, 4), 3);
    }

    // "All is as it was kept (no ACTS are kept then): the DAY"
    private static void backEdges() {
        DuelDelays x = rich();
        C.due("back(1)", x.back(1), 3);
        C.due("undo", x.undo(), false);
        C.due("redo", x.redo(), false);
        C.due("DUELS", x.about(3), 2);
        x.days(40);
        C.due("an ACT", x.about(9), 1);
        C.due("undo", x.undo(), true);
        C.due("the DAY", x.about(4), 3);
        C.due("back(1) again", x.back(1), 3);
        C.due("who lives", x.about(6), 7);
        x.put(0, 1, 1);
        C.due("the BOX is not what is now", x.back(1) + x.duel(0, 2), 3 + 13);
        x.days(1);
        C.due("another in the same BOX", x.image(1), 4);
        x.days(1);
        C.due("back(1)", x.back(1), 4);
        C.due("back(0) is as before", x.back(0), 0);
        C.due("forty ACTS behind it", forty(x), 40);
    }

    private static int forty(DuelDelays x) {
        for (int i = 0; i < 45; i++) {
            x.days(0);
        }
        return x.about(9);
    }

    // "NONE, doing nothing, if nothing was"
    private static void backRefused() {
        for (int box : new int[] {2, -1, 3, LEAST, MOST, 32, 33}) {
            T.same("back(" + box + ")", Ways::rich, y -> y.back(box), -1);
        }
        T.same("back(0) behind code", x -> {
            Ways.rich(x);
            Checks.code(x, Ways.LAND);
        }, x -> x.back(0), -1);
    }

    // ---- about

    // "What 0: MEN .. 15: numbers that lie there. NONE for another what."
    private static void aboutEdges() {
        DuelDelays x = rich();
        int[] want = {4, 2, 6, 3, 3, 7, 7, 3, 1, 5, 2, 2, 7, 20, 3, 1};
        for (int what = 0; what < want.length; what++) {
            C.due("about(" + what + ")", x.about(what), want[what]);
        }
        for (int what : new int[] {-1, 16, LEAST, MOST}) {
            T.same("about(" + what + ")", Ways::rich, y -> y.about(what), -1);
        }
        x.days(4);
        C.due("c fell, and had two of three", x.about(7), 1);
        C.due("DUELS", x.about(3), 3);
    }
}
