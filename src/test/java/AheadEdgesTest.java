/** The edges that '==== 3' of the document and the promises 22 to 29 name; above each test stands its sentence. */
public final class AheadEdgesTest {
    private static final Checks C = new Checks();
    private static final Twins T = new Twins(C);
    private static final int LEAST = Integer.MIN_VALUE;
    private static final int MOST = Integer.MAX_VALUE;
    private static final String ON_5 = "duel a with b on 5;";
    private static final String HONOUR_5 = "honour 5;";

    // lands in which just so many states are come to, from a MORNING 5
    private static final String LIFE_3000 = "man a dies 14;man b dies 99;kind k 1+uses;kind q 1+day%2;reason a of k each;"
        + "reason b of q;reason c of q each;reason d of k each;reason e of k;reason f of k each;reason g of q by b each;"
        + "reason h of k;";
    private static final String LIFE_3001 = "man a dies 19;man b dies 99;kind k 2;kind q 2+day%3;reason a of q to 12 each;"
        + "reason b of k from 15 each;reason c of q each;reason d of k by a each;reason e of q by b to 20 each;"
        + "reason f of q to 21 each;reason g of k by a each;reason h of k by b to 12 each;";
    private static final String NO_LIFE_3000 = "man a dies 65;man b dies 99;kind k 9-spent;kind q 3;reason a of q each;"
        + "reason b of q by b from 13;reason c of k by b each;reason d of q to 9 each;reason e of k each;reason f of k;";
    private static final String NO_LIFE_3001 = "man a dies 56;man b dies 99;kind k 1+day%2;kind q 2+day%3;reason a of k;"
        + "reason b of q by b each;reason c of k by a each;reason d of k;reason e of k each;reason f of k by b each;"
        + "reason g of q each;";
    private static final String LATE_3001 = "man a dies 25;man b dies 99;kind k 9-spent;kind q 2;reason a of q from 11 each;"
        + "reason b of q by b from 8 each;reason c of k each;reason d of q;reason e of q;reason f of k each;";
    private static final String LAST_3000 = "man a dies 43;man b dies 99;kind k 4;kind q 3;reason a of k each;reason b of k each;"
        + "reason c of q by a;reason d of q by a;reason e of k by a each;reason f of k each;reason g of q each;"
        + "reason h of k to 21 each;";
    private static final String LAST_3001 = "man a dies 18;man b dies 99;kind k 1;kind q 9-spent;reason a of k each;"
        + "reason b of k by b each;reason c of k by b each;reason d of q each;reason e of k by b each;"
        + "reason f of q to 27 each;reason g of k;reason h of k each;";

    public static void main(String[] args) {
        onTheMorning();
        aheadOfTheDay();
        ofAgeAlone();
        lifeEdges();
        lifeFirst();
        lifeSpent();
        lifeRefused();
        lateEdges();
        lateRefused();
        lastEdges();
        lastRefused();
        shunEdges();
        shunSpent();
        shunRefused();
        hireEdges();
        hireLeastSet();
        hireSpent();
        hireRefused();
        clashEdges();
        partEdges();
        partOfUnlikeDuels();
        partFirst();
        partRefused();
        liesEdges();
        nothingIsDone();
        C.finish("AheadEdgesTest");
    }

    private static String men(int n) {
        StringBuilder s = new StringBuilder();
        for (int i = 0; i < n; i++) {
            s.append("man ").append((char) ('a' + i)).append(" dies 90;");
        }
        return s.toString();
    }

    private static void lies(DuelDelays x, int... want) {
        C.due("how many lie there", x.about(15), want.length);
        for (int i = 0; i < want.length; i++) {
            C.due("lies(" + i + ")", x.lies(i), want[i]);
        }
        C.due("behind those", x.lies(want.length), -1);
    }

    // ---- what holds for all

    // "REASONS are used on the MORNING itself": from .. to and WORTH are by it, not by today
    private static void onTheMorning() {
        String text = "man a dies 20;man b dies 90;kind k 15;reason r of k from %d to %d;" + ON_5;
        int[][] windows = {{0, 4}, {0, 5}, {5, 5}, {5, 999}, {6, 6}, {4, 4}};
        int[] late = {5, 20, 20, 20, 5, 5};
        for (int i = 0; i < windows.length; i++) {
            DuelDelays x = Checks.land(String.format(text, windows[i][0], windows[i][1]));
            C.due("late by " + windows[i][0] + " to " + windows[i][1], x.late(0, 16), late[i]);
            C.due("life by " + windows[i][0] + " to " + windows[i][1], x.life(0), late[i] == 20 ? 1 : -1);
        }
        DuelDelays day = Checks.land("man a dies 90;man b dies 90;kind k day;reason r of k;reason s of k;" + ON_5);
        day.days(2);
        C.due("by DAY 5", day.late(0, 1), 10);
        C.due("then by DAY 10", day.late(0, 2), 20);
        C.due("today by DAY 2", day.put(0, 0, 0), 7);
        C.due("uses that were made count", day.late(0, 2), 14);
    }

    // "none on a MORNING that is not ahead of the DAY on which one of both dies"
    private static void aheadOfTheDay() {
        for (int dies = 4; dies <= 6; dies++) {
            for (int who = 0; who < 2; who++) {
                String text = "man a dies " + (who == 0 ? dies : 90) + ";man b dies " + (who == 1 ? dies : 90)
                    + ";kind k 3;reason r of k;" + ON_5;
                DuelDelays x = Checks.land(text);
                C.due("late, one dies on " + dies, x.late(0, 16), dies > 5 ? 8 : 5);
                C.due("last, one dies on " + dies, x.last(0, 0), dies > 5 ? 10 : 0);
                C.due("life, one dies on " + dies, x.life(0), dies > 5 ? 1 : 0);
            }
        }
        DuelDelays two = Checks.land("man a dies 8;man b dies 9;kind k 3;reason r of k;reason s of k;" + ON_5);
        C.due("on 8 no second one", two.late(0, 16), 8);
        DuelDelays more = Checks.land("man a dies 9;man b dies 9;kind k 3;reason r of k;reason s of k;" + ON_5);
        C.due("on 8 a second one", more.late(0, 16), 11);
    }

    // "MEN die of age alone, nobody inherits"
    private static void ofAgeAlone() {
        // a's other DUEL, ahead of this one, kills nobody; his son does not go on
        DuelDelays x = Checks.land("man a dies 9;man b dies 90;man c dies 90 son a;kind k 3;reason r of k;reason s of k;"
            + "duel a with b on 5;duel a with c on 2;");
        C.due("LIFE on 9", x.life(0), 2);
        C.due("LIFE of the other one", x.life(1), -1);
        // c's own REASON is nobody's on a MORNING on which he is dead of age, not on the one ahead
        for (int dies = 7; dies <= 9; dies++) {
            DuelDelays y = Checks.land("man a dies 90;man b dies 90;man c dies " + dies
                + ";kind k 3;kind q 7;reason r of k;reason s of q by c;" + ON_5);
            C.due("c dies on " + dies, y.late(0, 16), dies <= 8 ? 15 : 8);
        }
        // one who is dead now was so ahead of his age
        DuelDelays z = Checks.land("man a dies 90;man b dies 90;man c dies 90;man d dies 90;kind q 7;reason s of q by c;"
            + "duel c with d on 1;duel a with b on 5;draw 1;");
        C.due("c lives", z.late(1, 16), 5);
        z.days(1);
        C.due("208: c fell", z.man(2, 0), 0);
        C.due("c is dead", z.late(1, 16), 12);
    }

    // ---- LIFE

    // "how many REASONS"; "the fewest REASONS by which the MORNING is not ahead of the DAY on which one of both dies"
    private static void lifeEdges() {
        String text = "man a dies %d;man b dies 90;kind k 3;reason r of k;reason s of k;reason t of k;" + ON_5;
        int[] dies = {4, 5, 6, 8, 9, 11, 12, 14, 15};
        int[] want = {0, 0, 1, 1, 2, 2, 3, 3, -1};
        for (int i = 0; i < dies.length; i++) {
            DuelDelays x = Checks.land(String.format(text, dies[i]));
            C.due("life, a dies on " + dies[i], x.life(0), want[i]);
            C.due("what lies there", x.about(15), Math.max(0, want[i]));
        }
        // all sixteen
        StringBuilder s = new StringBuilder("man a dies 21;man b dies 90;kind k 1;");
        for (int i = 0; i < 8; i++) {
            s.append("reason ").append((char) ('a' + i)).append(" of k each;");
        }
        DuelDelays spent = Checks.land(s + ON_5);
        C.due("65,536 states", spent.life(0), -2);
        for (int i = 0; i < 12; i++) {
            spent.put(0, i % 2, i / 2);
        }
        C.due("the last four", spent.life(0), 4);
        lies(spent, 6, 7, 16, 17);
        spent.put(0, 0, 6);
        C.due("the last three", spent.life(0), 3);
        lies(spent, 7, 16, 17);
    }

    // "of like ones the first (REASON by REASON: by SIDE, then by number)"; "10 * the MAN and the REASON"
    private static void lifeFirst() {
        String reasons = "kind k 4;reason r of k by c;reason s of k by b;reason t of k;";
        DuelDelays x = Checks.land("man a dies 90;man b dies 90;man c dies 9;" + reasons + "duel c with b on 5;");
        C.due("life", x.life(0), 1);
        lies(x, 20);
        DuelDelays turned = Checks.land("man a dies 90;man b dies 90;man c dies 9;" + reasons + "duel b with c on 5;");
        C.due("SIDE 0 is b", turned.life(0), 1);
        lies(turned, 11);
        DuelDelays two = Checks.land("man a dies 90;man b dies 90;man c dies 13;" + reasons + "duel b with c on 5;");
        C.due("two", two.life(0), 2);
        lies(two, 11, 12);
        // the first one is worth more behind the second one: their order counts
        DuelDelays order = Checks.land("man a dies 14;man b dies 90;kind k 2+5*spent;kind q 2;reason r of k;reason s of q;"
            + "duel a with b on 5;");
        C.due("s, then r", order.life(0), 2);
        lies(order, 1, 0);
    }

    // "-2 if SPENT": "more than 3,000 states are come to (.. all of these ahead of asking; now counts)"
    private static void lifeSpent() {
        DuelDelays x = Checks.land(LIFE_3000 + ON_5);
        C.due("life by 3,000 states", x.life(0), 4);
        lies(x, 0, 3, 4, 5);
        DuelDelays y = Checks.land(LIFE_3001 + ON_5);
        y.falses(0);
        C.due("LIFE, but 3,001 states", y.life(0), -2);
        lies(y);
        C.due("no LIFE by 3,000 states", Checks.land(NO_LIFE_3000 + ON_5).life(0), -1);
        C.due("no LIFE, but 3,001 states", Checks.land(NO_LIFE_3001 + ON_5).life(0), -2);
    }

    // "NONE if there is none, it is not OPEN, or there is none such"; "(behind NONE, -2: nothing)"
    private static void lifeRefused() {
        for (int duel : new int[] {-1, 3, LEAST, MOST}) {
            DuelDelays x = new DuelDelays();
            Ways.rich(x);
            C.due("something lies there", x.about(15), 1);
            C.due("life(" + duel + ")", x.life(duel), -1);
            lies(x);
            T.same("life(" + duel + ")", Ways::rich, y -> {
                int answer = y.life(duel);
                y.falses(7);
                return answer;
            }, -1);
        }
        DuelDelays fought = Checks.land("man a dies 5;man b dies 9;duel a with b on 4;");
        C.due("OPEN", fought.life(0), -1);
        fought.days(4);
        C.due("not OPEN", fought.life(0), -1);
        DuelDelays dead = Checks.land("man a dies 4;man b dies 9;duel a with b on 4;");
        C.due("OPEN", dead.life(0), 0);
        dead.days(4);
        C.due("not OPEN", dead.life(0), -1);
        DuelDelays x = Checks.land(LIFE_3001 + ON_5 + "man c dies 5;duel a with c on 5;");
        C.due("by none", x.life(1), 0);
        C.due("SPENT behind it", x.life(0), -2);
        lies(x);
    }

    // ---- LATE

    // "the latest MORNING by n REASONS at most"; "(n 0 .. 16)"
    private static void lateEdges() {
        StringBuilder s = new StringBuilder("man a dies 90;man b dies 90;kind k 1;kind q 9;");
        for (int i = 0; i < 4; i++) {
            s.append("reason ").append((char) ('a' + i)).append(" of k each;");
        }
        DuelDelays x = Checks.land(s + "reason z of q;" + ON_5);
        for (int n = 0; n <= 16; n++) {
            C.due("late(0, " + n + ")", x.late(0, n), n == 0 ? 5 : 5 + 9 + Math.min(8, n - 1));
        }
        // fewer may be later: all behind the first are worth the less
        DuelDelays y = Checks.land("man a dies 9;man b dies 90;kind k 2;kind q 9;reason r of k;reason s of q;" + ON_5);
        C.due("by one", y.late(0, 1), 14);
        C.due("by two", y.late(0, 2), 16);
        C.due("by 16", y.late(0, 16), 16);
        C.due("by 3,000 states", Checks.land(NO_LIFE_3000 + ON_5).late(0, 9), 44);
        C.due("by 3,001 states", Checks.land(LATE_3001 + ON_5).late(0, 9), -2);
        C.due("by fewer", Checks.land(LATE_3001 + ON_5).late(0, 3), 29);
        C.due("by 3,001 states", Checks.land(NO_LIFE_3001 + ON_5).late(0, 16), -2);
        C.due("by none at all", Checks.land(NO_LIFE_3001 + ON_5).late(0, 0), 5);
    }

    // "NONE if one can't be, or it is not OPEN; -2 if SPENT"
    private static void lateRefused() {
        int[][] wrong = {{-1, 0}, {3, 0}, {LEAST, 0}, {MOST, 0}, {0, -1}, {0, 17}, {0, LEAST}, {0, MOST}};
        for (int[] w : wrong) {
            T.same("late(" + w[0] + ", " + w[1] + ")", Ways::rich, y -> y.late(w[0], w[1]), -1);
        }
        DuelDelays x = Checks.land("man a dies 90;man b dies 90;duel a with b on 2;");
        C.due("late(0, 0)", x.late(0, 0), 2);
        x.days(2);
        C.due("not OPEN", x.late(0, 0), -1);
        C.due("not OPEN", x.late(0, 16), -1);
    }

    // ---- LAST

    // "who has none that he MAY use, or whose turn it is when the MORNING is not ahead of that DAY, loses"; "10 + the
    // REASON if he wins, else 0"; "(the first by which he does)"
    private static void lastEdges() {
        DuelDelays none = Checks.land(men(2) + ON_5);
        C.due("none to use", none.last(0, 0), 0);
        C.due("none to use", none.last(0, 1), 0);
        DuelDelays own = Checks.land(men(2) + "kind k 1;reason r of k by b;" + ON_5);
        C.due("a has none", own.last(0, 0), 0);
        C.due("b has one, a none then", own.last(0, 1), 10);
        StringBuilder s = new StringBuilder(men(2) + "kind k 1;");
        for (int n = 1; n <= 8; n++) {
            s.append("reason ").append((char) ('a' + n)).append(" of k;");
            DuelDelays x = Checks.land(s + ON_5);
            C.due(n + " for both", x.last(0, 0), n % 2 == 1 ? 10 : 0);
            C.due(n + " for both", x.last(0, 1), n % 2 == 1 ? 10 : 0);
        }
        // the seventh is the first by which he wins
        DuelDelays seventh = Checks.land("man a dies 6;man b dies 90;kind k 1;kind q 2;reason a of k by b;reason b of k by b;"
            + "reason c of k by b;reason d of k by b;reason e of k by b;reason f of k by b;reason g of k by b;reason h of k;"
            + ON_5);
        C.due("by the eighth", seventh.last(0, 0), 17);
        C.due("by the first", seventh.last(0, 1), 10);
        // WORTH is by the MORNING of each turn: r brings it to 10, from where a's s ends it; s leaves a none
        DuelDelays day = Checks.land("man a dies 23;man b dies 99;kind k day;reason r of k by b;reason s of k;" + ON_5);
        C.due("b wins by s", day.last(0, 1), 11);
        C.due("a loses by s", day.last(0, 0), 0);
        C.due("by 3,000 states", Checks.land(LAST_3000 + ON_5).last(0, 0), 10);
        C.due("by 3,001 states", Checks.land(LAST_3001 + ON_5).last(0, 1), -2);
        C.due("the other SIDE by fewer", Checks.land(LAST_3001 + ON_5).last(0, 0), 0);
    }

    // "NONE if one can't be, or it is not OPEN; -2 if SPENT"
    private static void lastRefused() {
        int[][] wrong = {{-1, 0}, {3, 0}, {LEAST, 0}, {MOST, 0}, {0, -1}, {0, 2}, {0, LEAST}, {0, MOST}};
        for (int[] w : wrong) {
            T.same("last(" + w[0] + ", " + w[1] + ")", Ways::rich, y -> y.last(w[0], w[1]), -1);
        }
        DuelDelays x = Checks.land("man a dies 90;man b dies 90;duel a with b on 2;");
        x.days(2);
        C.due("not OPEN", x.last(0, 0), -1);
        C.due("not OPEN", x.last(0, 1), -1);
    }

    // ---- SHUN

    // "other living MEN, without OPEN DUEL with him, with whom a DUEL of honour DAYS from now would have no LIFE"
    private static void shunEdges() {
        String text = "man a dies 90;man b dies 90;man c dies 5;man d dies 6;man e dies 90;man f dies 1;duel a with e on 3;" + HONOUR_5;
        DuelDelays x = Checks.land(text);
        C.due("not himself, not e, not who is dead by then", x.shun(0), 2 + 8);
        C.due("of b", x.shun(1), 1 + 8 + 16);
        C.due("of c: he dies himself", x.shun(2), 0);
        x.days(1);
        C.due("f is dead; d is by then", x.shun(0), 2);
        C.due("of the dead", x.shun(5), -1);
        x.days(2);
        C.due("FOUGHT: 71, e fell", x.about(6), 15);
        C.due("of a", x.shun(0), 2);
        // a REASON that brings it to the DAY itself, or one DAY ahead of it
        for (int dies = 8; dies <= 9; dies++) {
            DuelDelays y = Checks.land("man a dies 90;man b dies " + dies + ";kind k 3;reason r of k;" + HONOUR_5);
            C.due("b dies on " + dies, y.shun(0), dies == 8 ? 0 : 2);
        }
        // what was used once for all can't be used in a new one
        DuelDelays all = Checks.land("man a dies 90;man b dies 8;man c dies 90;kind k 3;reason r of k all;duel a with c on 9;" + HONOUR_5);
        C.due("by r", all.shun(0), 0);
        all.put(0, 0, 0);
        C.due("r was used", all.shun(0), 2);
    }

    // "-2 if one is SPENT"
    private static void shunSpent() {
        C.due("LIFE by 3,000", Checks.land(LIFE_3000 + HONOUR_5).shun(0), 0);
        C.due("LIFE by 3,001", Checks.land(LIFE_3001 + HONOUR_5).shun(0), -2);
        C.due("no LIFE by 3,000", Checks.land(NO_LIFE_3000 + HONOUR_5).shun(0), 2);
        C.due("no LIFE by 3,000", Checks.land(NO_LIFE_3000 + HONOUR_5).shun(1), 1);
        C.due("no LIFE by 3,001", Checks.land(NO_LIFE_3001 + HONOUR_5).shun(1), -2);
        DuelDelays x = Checks.land("man z dies 5;" + NO_LIFE_3001 + "man y dies 5;" + HONOUR_5);
        C.due("one of three is SPENT", x.shun(1), -2);
        C.due("none is SPENT of a short life", x.shun(0), 0);
    }

    // "NONE if there is none such, he is dead, or there are 8 DUELS"
    private static void shunRefused() {
        for (int man : new int[] {-1, 4, LEAST, MOST, 3}) {
            T.same("shun(" + man + ")", Ways::rich, y -> y.shun(man), -1);
        }
        DuelDelays x = Checks.land(men(6));
        for (int i = 0; i < 7; i++) {
            x.insult(i < 5 ? 0 : 1, i < 5 ? i + 1 : i - 3);
        }
        C.due("with 7 DUELS", x.shun(2), 8 + 16 + 32);
        x.insult(1, 4);
        C.due("DUELS", x.about(3), 8);
        C.due("with 8 DUELS", x.shun(2), -1);
    }

    // ---- HIRE

    // "REASONS of living others that he has not RENTED, that he would RENT so that there is LIFE: for the fewest coins
    // together (as much as he has, or not)"
    private static void hireEdges() {
        String text = "man a dies %d;man b dies 90;man c dies 90;kind k 4;reason r of k by c rent 99;reason s of k by c rent 98;"
            + "reason t of k by c;" + ON_5;
        int[] dies = {5, 9, 13, 17, 18};
        int[] want = {0, 0, 98, 197, -1};
        int[] sets = {0, 4, 6, 7, -1};
        for (int i = 0; i < dies.length; i++) {
            for (int side = 0; side < 2; side++) {
                DuelDelays x = Checks.land(String.format(text, dies[i]));
                C.due("hire, a dies on " + dies[i], x.hire(0, side), want[i]);
                C.due("the set", x.lies(0), sets[i]);
                C.due("how many numbers", x.about(15), want[i] < 0 ? 0 : 1);
            }
        }
        // of the dead, one's own, nobody's, RENTED ones: there is nothing to hire
        DuelDelays dead = Checks.land("man a dies 12;man b dies 90;man c dies 90;man d dies 90;kind k 4;reason r of k by c rent 9;"
            + "duel a with b on 8;duel c with d on 2;draw 1;");
        C.due("c lives", dead.hire(0, 0), 9);
        lies(dead, 1);
        dead.days(2);
        C.due("208: c fell", dead.man(2, 0), 0);
        C.due("c is dead", dead.hire(0, 0), 0);
        lies(dead, 0);
        DuelDelays has = Checks.land("man a dies 12 coin 9;man b dies 90;man c dies 90;kind k 4;reason r of k by c rent 9;"
            + "duel a with b on 8;");
        has.rent(0, 0);
        C.due("a has RENTED it", has.hire(0, 0), 0);
        lies(has, 0);
        C.due("a has RENTED it, b need not", has.hire(0, 1), 0);
        // whose REASON it is may have a DUEL of his own
        DuelDelays busy = Checks.land("man a dies 12;man b dies 90;man c dies 90;man d dies 90;kind k 4;reason r of k by c rent 9;"
            + "duel a with b on 8;duel c with d on 8;duel d with b on 8;");
        C.due("for SIDE 0", busy.hire(0, 0), 9);
        C.due("for SIDE 1", busy.hire(0, 1), 9);
        // the other SIDE's own: an each can be used by him, too
        DuelDelays other = Checks.land("man a dies 16;man b dies 90;kind k 4;reason r of k by b rent 3 each;reason s of k by b rent 2;"
            + "duel a with b on 4;");
        C.due("a RENTS the each", other.hire(0, 0), 3);
        lies(other, 1);
        C.due("b has all", other.hire(0, 1), -1);
    }

    // "of like ones the least set (as bits)"
    private static void hireLeastSet() {
        String text = "man a dies 9;man b dies 90;man c dies 90;kind k 4;kind q 1;reason p of q by c;reason r of k by c rent %d;"
            + "reason s of k by c rent %d;reason t of k by c rent %d;" + ON_5;
        int[][] rents = {{5, 5, 5}, {6, 5, 5}, {6, 6, 5}, {5, 6, 5}, {0, 0, 0}};
        int[] sets = {2, 4, 8, 2, 2};
        for (int i = 0; i < rents.length; i++) {
            DuelDelays x = Checks.land(String.format(text, rents[i][0], rents[i][1], rents[i][2]));
            C.due("hire", x.hire(0, 0), i == 4 ? 0 : 5);
            lies(x, sets[i]);
        }
        // a set of more, but less as bits
        DuelDelays x = Checks.land("man a dies 9;man b dies 90;man c dies 90;kind k 2;kind q 4;reason r of k by c rent 2;"
            + "reason s of k by c rent 3;reason t of q by c rent 5;" + ON_5);
        C.due("hire", x.hire(0, 0), 5);
        lies(x, 3);
        // those that cost nothing and do not help are none of the set
        DuelDelays y = Checks.land("man a dies 9;man b dies 90;man c dies 90;kind k 4;reason r of k by c to 4;reason s of k by c rent 7;"
            + "reason t of k by c to 4;" + ON_5);
        C.due("hire", y.hire(0, 0), 7);
        lies(y, 2);
    }

    // "sets by which LIFE is SPENT are none"
    private static void hireSpent() {
        DuelDelays x = Checks.land(LIFE_3000 + ON_5);
        C.due("by 3,000 states", x.hire(0, 0), 0);
        lies(x, 0);
        DuelDelays y = Checks.land(LIFE_3001 + ON_5);
        C.due("by 3,001 states", y.hire(0, 0), -1);
        lies(y);
        // nothing rented is SPENT; a dear one is LIFE by itself
        DuelDelays z = Checks.land(LIFE_3001.replace("reason h of k by b to 12 each;", "")
            .replace("kind k 2;", "kind k 2;kind z 99;") + "man c dies 99;reason h of k by b to 12 each;" + ON_5);
        C.due("as many states", z.life(0), -2);
        DuelDelays w = Checks.land(NO_LIFE_3001.replace("kind k", "man c dies 99;kind z 99;kind k")
            + "reason h of z by c rent 44;" + ON_5);
        C.due("SPENT without", w.life(0), -2);
        C.due("hire", w.hire(0, 0), 44);
        lies(w, 128);
        C.due("hire", w.hire(0, 1), 44);
    }

    // "NONE if there is none, it is not OPEN, or one can't be"; "(behind NONE: nothing)"
    private static void hireRefused() {
        int[][] wrong = {{-1, 0}, {3, 0}, {LEAST, 0}, {MOST, 0}, {0, -1}, {0, 2}, {0, LEAST}, {0, MOST}};
        for (int[] w : wrong) {
            DuelDelays x = new DuelDelays();
            Ways.rich(x);
            C.due("hire(" + w[0] + ", " + w[1] + ")", x.hire(w[0], w[1]), -1);
            lies(x);
            T.same("hire(" + w[0] + ", " + w[1] + ")", Ways::rich, y -> {
                int answer = y.hire(w[0], w[1]);
                y.falses(7);
                return answer;
            }, -1);
        }
        DuelDelays x = Checks.land("man a dies 3;man b dies 90;duel a with b on 3;");
        C.due("OPEN", x.hire(0, 0), 0);
        x.days(3);
        C.due("not OPEN", x.hire(0, 0), -1);
        C.due("not OPEN", x.hire(0, 1), -1);
        lies(x);
    }

    // ---- CLASH and PART

    // "MORNINGS on which he has two or more OPEN DUELS"; "how many; NONE if there is none such"
    private static void clashEdges() {
        String[] on = {"6 7 8 9 5", "6 6 8 9 5", "6 6 6 9 5", "6 6 7 7 5", "6 6 6 6 6", "6 7 6 7 6"};
        int[] want = {0, 1, 1, 2, 1, 2};
        for (int i = 0; i < on.length; i++) {
            String[] mornings = on[i].split(" ");
            StringBuilder s = new StringBuilder(men(6));
            for (int j = 0; j < 5; j++) {
                String other = String.valueOf((char) ('b' + j));
                s.append(j % 2 == 0 ? "duel a with " + other : "duel " + other + " with a").append(" on ").append(mornings[j]).append(';');
            }
            DuelDelays x = Checks.land(s.toString());
            C.due("MORNINGS " + on[i], x.clash(0), want[i]);
            C.due("of b", x.clash(1), 0);
        }
        for (int man : new int[] {-1, 4, LEAST, MOST}) {
            T.same("clash(" + man + ")", Ways::rich, y -> y.clash(man), -1);
        }
        // those that are not OPEN do not count; the dead have none
        DuelDelays x = Checks.land("man a dies 90;man b dies 2;man c dies 90;duel a with b on 6;duel a with c on 6;");
        C.due("two", x.clash(0), 1);
        x.days(2);
        C.due("one OPEN", x.clash(0), 0);
        C.due("of the dead", x.clash(1), 0);
        C.due("part of the dead", x.part(1), 0);
    }

    // "the fewest REASONS used today (2 at most, ..) so that he has no CLASH"; "NONE if 2 are not enough"
    private static void partEdges() {
        String reasons = "kind k 10;kind q 20;reason r of k;reason s of q;reason t of q;";
        String[] on = {"6 7 8 9", "6 6 8 9", "6 6 6 9", "6 6 7 7", "6 6 6 6", "6 6 7 16"};
        int[] want = {0, 1, 2, 2, -1, 1};
        int[][] lie = {{}, {0}, {0, 101}, {0, 200}, {}, {1}};
        for (int i = 0; i < on.length; i++) {
            String[] mornings = on[i].split(" ");
            StringBuilder s = new StringBuilder(men(5) + reasons);
            for (int j = 0; j < 4; j++) {
                s.append("duel a with ").append((char) ('b' + j)).append(" on ").append(mornings[j]).append(';');
            }
            DuelDelays x = Checks.land(s.toString());
            C.due("MORNINGS " + on[i], x.part(0), want[i]);
            lies(x, lie[i]);
        }
        // what DUEL 0 could be put off by does not help: the others' MORNINGS do not change by having been tried
        DuelDelays tried = Checks.land(men(6) + "kind k 2;reason r of k;duel a with b on 6;duel a with c on 7;duel a with d on 7;"
            + "duel a with e on 8;duel a with f on 8;");
        C.due("two CLASHES", tried.part(0), 2);
        lies(tried, 100, 300);
        // used today: from .. to and WORTH are by the DAY of today
        DuelDelays x = Checks.land(men(3) + "kind k 1+day;reason r of k from 2 to 3;duel a with b on 6;duel a with c on 6;");
        for (int day = 0; day < 5; day++) {
            C.due("part on " + day, x.part(0), day == 2 || day == 3 ? 1 : -1);
            x.days(1);
        }
    }

    // "(.. of unlike DUELS, each by one of its SIDES that MAY, one behind the other)"
    private static void partOfUnlikeDuels() {
        // r brings 6 to 9, r and s would bring it to 12: two in one DUEL are not asked for
        DuelDelays two = Checks.land(men(4) + "kind k 3;reason r of k by b;reason s of k by b;duel a with b on 6;duel a with c on 6;"
            + "duel a with d on 9;");
        C.due("not by two in one", two.part(0), -1);
        C.due("by two in earnest", two.put(0, 1, 0) + two.put(0, 1, 1), 9 + 12);
        C.due("no CLASH", two.clash(0), 0);
        // once for all serves the first only, an each or a plain one both
        String[] sorts = {"", " each", " all"};
        for (int i = 0; i < 3; i++) {
            DuelDelays x = Checks.land(men(5) + "kind k 3;reason r of k" + sorts[i] + ";duel a with b on 6;duel a with c on 6;"
                + "duel a with d on 7;duel a with e on 7;");
            C.due("part by" + sorts[i], x.part(0), i < 2 ? 2 : -1);
            lies(x, i < 2 ? new int[] {0, 200} : new int[] {});
        }
        // what was used once for all, or is STRUCK, or another's, is not used
        DuelDelays x = Checks.land("man a dies 90 coin 9;man b dies 90;man c dies 90;man d dies 90;kind k 3;reason r of k all;"
            + "reason s of k by d rent 9;duel a with b on 6;duel a with c on 6;duel a with d on 20;");
        C.due("by r", x.part(0), 1);
        x.put(2, 1, 0);
        C.due("r was used in another", x.part(0), -1);
        x.rent(0, 1);
        C.due("by s, RENTED", x.part(0), 1);
        lies(x, 1);
        x.strike(1);
        C.due("STRUCK", x.part(0), -1);
        x.undo();
        x.undo();
        x.undo();
        C.due("r again", x.part(0), 1);
        lies(x, 0);
    }

    // "of like ones the first (DUEL, SIDE, REASON; then the other one of a greater DUEL)"; "100 * the DUEL, 10 * the
    // SIDE and the REASON"
    private static void partFirst() {
        String duels = "duel a with b on 6;duel c with a on 6;";
        DuelDelays side = Checks.land(men(3) + "kind k 3;reason r of k by b;reason s of k by c;" + duels);
        C.due("b's, in DUEL 0", side.part(0), 1);
        lies(side, 10);
        side.strike(0);
        C.due("c's, in DUEL 1", side.part(0), 1);
        lies(side, 101);
        DuelDelays both = Checks.land(men(3) + "kind k 3;reason r of k by b;reason s of k by a;" + duels);
        C.due("SIDE ahead of REASON", both.part(0), 1);
        lies(both, 1);
        DuelDelays eight = Checks.land(men(3) + "kind k 3;reason a of k to 0;reason b of k by b;reason c of k by b;reason d of k by b;"
            + "reason e of k by b;reason f of k by b;reason g of k by b;reason h of k by c;" + duels);
        eight.days(1);
        for (int reason = 1; reason < 7; reason++) {
            C.due("part", eight.part(0), 1);
            lies(eight, 10 + reason);
            eight.strike(reason);
        }
        C.due("the last", eight.part(0), 1);
        lies(eight, 107);
        // DUELS by INSULT have greater numbers
        DuelDelays far = Checks.land(men(6) + "kind k 3;reason r of k by f;duel b with c on 50;duel b with d on 51;duel b with e on 52;"
            + "duel c with d on 53;duel c with e on 54;duel d with e on 55;honour 7;");
        far.insult(0, 1);
        far.insult(5, 0);
        C.due("DUEL 7", far.part(0), 1);
        lies(far, 700);
    }

    // "NONE if 2 are not enough, or there is none such"; "(behind NONE: nothing)"
    private static void partRefused() {
        for (int man : new int[] {-1, 4, LEAST, MOST}) {
            DuelDelays x = new DuelDelays();
            Ways.rich(x);
            C.due("part(" + man + ")", x.part(man), -1);
            lies(x);
            T.same("part(" + man + ")", Ways::rich, y -> {
                int answer = y.part(man);
                y.falses(7);
                return answer;
            }, -1);
        }
    }

    // "The i-th number of what lies there; NONE if there is none such"
    private static void liesEdges() {
        for (int i : new int[] {-1, 1, LEAST, MOST, 16}) {
            T.same("lies(" + i + ")", Ways::rich, y -> y.lies(i), -1);
        }
        T.same("lies(0)", Ways::rich, y -> y.lies(0), 0);
        DuelDelays x = Checks.land(men(2) + ON_5);
        C.due("nothing at first", x.lies(0), -1);
    }

    // "nothing is done": only what lies there is another
    private static void nothingIsDone() {
        T.same("late", Ways::rich, y -> y.late(0, 16), 30);
        T.same("last", Ways::rich, y -> y.last(0, 0), 0);
        T.same("shun", Ways::rich, y -> y.shun(0), 0);
        T.same("clash", Ways::rich, y -> y.clash(0), 0);
        T.same("life", Ways::rich, y -> {
            int answer = y.life(0);
            y.falses(7);
            return answer;
        }, 4);
        T.same("hire", Ways::rich, y -> {
            int answer = y.hire(0, 0);
            y.falses(7);
            return answer;
        }, 0);
        T.same("part", Ways::rich, y -> {
            int answer = y.part(0);
            y.falses(7);
            return answer;
        }, 0);
    }
}
