/** Ordinary inputs, edges and wrong inputs, promise by promise. */
public final class PromisesTest {
    private static final Checks C = new Checks();

    /** Two DUELS, all sorts of REASONS; a is the father of c. */
    private static final String LAND = "man a dies 30 coin 5;man b dies 40 coin 2;man c dies 90 son a;kind aunt 5;"
        + "kind ill 3 + uses;reason jane of aunt by a;reason flu of ill each;reason comet of aunt from 10 to 20 all;"
        + "reason lent of ill by b rent 2;duel a with b on 8;honour 4;draw 7;";

    public static void main(String[] args) {
        promise1();
        promises2And3();
        promise4();
        promise5Tokens();
        promise5Places();
        promise5Limits();
        promise5Names();
        promises6To8();
        promise9();
        promise10();
        promise10Sorts();
        promises11To14();
        promise15();
        promise16();
        promise17();
        promise18();
        promise19();
        promise19Inheriting();
        promises20And21();
        promise22();
        promise22Spent();
        promise22OthersDie();
        promise23();
        promise24();
        promise25();
        promise26();
        promise27();
        promise28();
        promise29();
        promises30And31();
        promises32To35();
        promises36And37();
        promise38();
        wildArguments();
        C.finish("PromisesTest");
    }

    private static void promise1() {
        DuelDelays x = new DuelDelays();
        int[] want = {0, 0, 0, 0, 0, 0, 0, 0, 0, 0, 0, 0, 0, 0, 0, 0};
        for (int what = 0; what < want.length; what++) {
            C.due("new: about(" + what + ")", x.about(what), want[what]);
        }
        C.due("new: fault(0)", x.fault(0), 0);
        C.due("new: fault(1)", x.fault(1), DuelDelays.NONE);
        C.due("NONE", DuelDelays.NONE, -1);
        C.due("new: undo()", x.undo(), false);
        C.due("new: back(0)", x.back(0), -1);
    }

    private static void promises2And3() {
        DuelDelays x = new DuelDelays();
        // "honour 7;" in the first bytes, the highest of each number first
        C.due("feed", x.feed(0x686f6e6f, 0x75722037, 0x3b000000, 0, -1), 20);
        C.due("end(-1)", x.end(-1), -1);
        C.due("end(21)", x.end(21), -1);
        C.due("about(13)", x.about(13), 20);
        C.due("end(20)", x.end(20), 20);
        C.due("end(9)", x.end(9), 9);
        C.due("end(10) now", x.end(10), -1);
        C.due("code of that", x.code(), 0);
        for (int i = 1; i <= 80; i++) {
            C.due("feed number " + i, x.feed(0x20202020, 0x0a0a0a0a, 0x20202020, 0x20202020, 0x20202020), 20 * i);
        }
        C.due("feed too much", x.feed(1, 2, 3, 4, 5), -1);
        C.due("about(13) full", x.about(13), 1600);
        C.due("end(1581)", x.end(1581), 1581);
        C.due("feed at 1581", x.feed(1, 2, 3, 4, 5), -1);
        C.due("end(1580)", x.end(1580), 1580);
        C.due("feed at 1580", x.feed(0x20202020, 0x20202020, 0x20202020, 0x20202020, 0x20202020), 1600);
        C.due("blanks alone", x.code(), 0);
        C.due("end(0)", x.end(0), 0);
    }

    private static void promise4() {
        DuelDelays x = Checks.land(LAND);
        C.due("tape behind code", x.about(13), 0);
        x.put(0, 0, 0);
        x.days(2);
        x.undo();
        x.later(6);
        x.sight(0, 3);
        x.life(0);
        x.image(1);
        Checks.feed(x, "man a dies 0;");
        C.due("a fault", x.code(), -1);
        int[] same = {3, 2, 4, 1, 0, 7, 7, 1, 1, 1, 1, 1, 6, 13, 3};
        for (int what = 0; what < same.length; what++) {
            C.due("behind a fault about(" + what + ")", x.about(what), same[what]);
        }
        C.due("behind a fault duel(0, 2)", x.duel(0, 2), 13);
        C.due("behind a fault log(0, 0)", x.log(0, 0), 0);
        C.due("code anew", Checks.code(x, LAND), 3);
        int[] anew = {3, 2, 4, 1, 0, 7, 7, 1, 0, 0, 0, 0, 6, 0, 3, 0};
        for (int what = 0; what < anew.length; what++) {
            C.due("anew about(" + what + ")", x.about(what), anew[what]);
        }
        C.due("anew back(1)", x.back(1), -1);
        C.due("anew duel(0, 2)", x.duel(0, 2), 8);
        C.due("anew duel(0, 5)", x.duel(0, 5), 0);
        C.due("an empty code", x.code(), 0);
        C.due("an empty code: duel", x.duel(0, 0), -2);
        C.due("an empty code: honour", Checks.code(x, "man a dies 9;man b dies 9;"), 2);
        x.insult(0, 1);
        C.due("honour untold", x.duel(0, 2), 9);
    }

    private static void fault(String text, int code, int place) {
        DuelDelays x = new DuelDelays();
        int men = Checks.code(x, text);
        C.due("code of [" + text + "]", men < 0 ? -1 : 0, code == 0 ? 0 : -1);
        C.due("fault(0) of [" + text + "]", x.fault(0), code);
        C.due("fault(1) of [" + text + "]", x.fault(1), place);
        C.due("fault(2)", x.fault(2), -1);
        C.due("fault(-1)", x.fault(-1), -1);
    }

    private static void promise5Tokens() {
        fault("", 0, -1);
        fault("man a dies 3;", 0, -1);
        fault("man zaz dies 3;", 0, -1);
        fault("man `a dies 3;", 1, 4);
        fault("man a{ dies 3;", 1, 5);
        fault("man a dies 09;", 0, -1);
        fault("man a dies 9:;", 1, 12);
        fault("man\na\ndies3;\n", 0, -1);
        fault("mana dies 3;", 2, 0);
        fault("man abcdefgh dies 3;", 0, -1);
        fault("man abcdefghi dies 3;", 1, 4);
        fault("man a dies 00003;", 1, 11);
        fault("man a dies 0003;", 0, -1);
        fault("man a dies 3coin 4;", 1, 11);
        fault("man a dies\t3;", 1, 10);
        fault("man A dies 3;", 1, 4);
        fault("man a dies 3;\r", 1, 13);
        fault("man a dies 3;\u00e9", 1, 13);
        fault("?", 1, 0);
        fault("kind k 1 & 2;", 1, 9);
        fault("kind k (1+2)*3-4/5%6<7;", 0, -1);
    }

    private static void promise5Places() {
        fault("man dies", 2, 4);
        fault("man", 2, 3);
        fault("man a dies 3", 2, 12);
        fault("man a dies 3  ", 2, 14);
        fault("man a dies 3 3;", 2, 13);
        fault("dies;", 2, 0);
        fault("a;", 2, 0);
        fault(";", 2, 0);
        fault("man a dies 3;;", 2, 13);
        fault("man a dies 3 man b dies 3;", 2, 13);
        fault("kind k 1 kind q 1;", 2, 9);
        fault("kind k 1;reason r of k reason s of k;", 2, 23);
        fault("man a dies 3;man b dies 3;duel a with b on 3 honour 4;", 2, 45);
        fault("honour 3 draw 4;", 2, 9);
        fault("draw 3 honour 4;", 2, 7);
        fault("man a dies 3 son a;", 5, 17);
        fault("man a dies 3;man b dies 3 son a coin 2;", 2, 32);
        fault("man a dies 3;man b dies 3 coin 2 son a;", 0, -1);
        fault("kind k;", 2, 6);
        fault("kind k 1 +;", 2, 10);
        fault("kind k 1 or;", 2, 11);
        fault("kind k 1 and;", 2, 12);
        fault("kind k not;", 2, 10);
        fault("kind k 1 <;", 2, 10);
        fault("kind k 1 *;", 2, 10);
        fault("kind k ();", 2, 8);
        fault("kind k 1 < 2 < 3;", 2, 13);
        fault("kind k 1 + not 2;", 2, 11);
        fault("kind k not 1 < 2 and not not day or uses = spent;", 0, -1);
        fault("kind k (1;", 2, 9);
        fault("kind k 1);", 2, 8);
        fault("kind k x;", 2, 7);
        fault("kind k 1;reason r of k to 3 from 2;", 2, 28);
        fault("kind k 1;reason r of k all each;", 2, 27);
        fault("kind k 1;reason r of k all or each;", 2, 27);
        fault("kind k 1;reason r of k each rent 3;", 2, 28);
        fault("honour 3;honour 4;", 2, 9);
        fault("draw 3;draw 3;", 2, 7);
        fault("honour 3;draw 3;", 0, -1);
        // one place: the least; the first place, whatever is behind
        fault("man man dies 0;", 2, 4);
        fault("man a dies 0 ?", 4, 11);
    }

    private static String men(int n) {
        String s = "";
        for (int i = 0; i < n; i++) {
            s += "man " + (char) ('a' + i) + " dies 9;";
        }
        return s;
    }

    private static String times(String s, int n) {
        String all = "";
        for (int i = 0; i < n; i++) {
            all += s;
        }
        return all;
    }

    private static void promise5Limits() {
        fault(men(6), 0, -1);
        fault(men(7), 2, 6 * 13);
        fault("kind a 1;kind b 1;kind c 1;kind d 1;", 0, -1);
        fault("kind a 1;kind b 1;kind c 1;kind d 1;kind a 1;", 2, 36);
        String reasons = "";
        for (int i = 0; i < 8; i++) {
            reasons += "reason " + (char) ('a' + i) + " of k;";
        }
        fault("kind k 1;" + reasons, 0, -1);
        fault("kind k 1;" + reasons + "reason", 2, 9 + 8 * 14);
        String duels = men(6) + "duel a with b on 1;duel a with c on 1;duel a with d on 1;duel a with e on 1;"
            + "duel a with f on 1;duel b with c on 1;";
        fault(duels, 0, -1);
        fault(duels + "duel b with d on 1;", 2, duels.length());
        fault("kind k 1" + times("+1", 29) + ";", 0, -1);
        fault("kind k 1" + times("+1", 30) + ";", 2, 8 + 2 * 29 + 1);
        fault("kind k (1" + times("+1", 28) + ");", 0, -1);
        fault("kind k (1" + times("+1", 29) + ");", 2, 9 + 2 * 28 + 1);
        String sixty = "kind a 1" + times("+1", 29) + ";kind b 1" + times("+1", 29) + ";";
        fault(sixty, 0, -1);
        fault(sixty + "kind c 1;", 2, sixty.length() + 7);
        C.due("units", Checks.land(sixty).about(14), 60);
        C.due("units of ((1))+day", Checks.land("kind k ((1))+day;").about(14), 4);
        fault("kind k " + times("(", 7) + "1" + times(")", 7) + ";", 0, -1);
        fault("kind k " + times("(", 8) + "1" + times(")", 8) + ";", 2, 7 + 7);
        fault("kind k " + times("not ", 7) + "1;", 0, -1);
        fault("kind k " + times("not ", 8) + "1;", 2, 7 + 28);
        fault("kind k " + times("not (", 3) + "not 1)));", 0, -1);
        fault("kind k " + times("not (", 3) + "not (1))));", 2, 7 + 19);
        fault("kind k " + times("(1)+", 10) + "1;", 0, -1);
        fault("man a dies 1;", 0, -1);
        fault("man a dies 999;", 0, -1);
        fault("man a dies 0;", 4, 11);
        fault("man a dies 1000;", 4, 11);
        fault("man a dies 9 coin 999;", 0, -1);
        fault("man a dies 9 coin 1000;", 4, 18);
        fault("kind k 9999;reason r of k from 0 to 0 rent 99;", 0, -1);
        fault("kind k 1;reason r of k from 1000;", 4, 28);
        fault("kind k 1;reason r of k to 1000;", 4, 26);
        fault("kind k 1;reason r of k from 5 to 5;", 0, -1);
        fault("kind k 1;reason r of k from 5 to 4;", 4, 33);
        fault("kind k 1;reason r of k rent 100;", 4, 28);
        fault("honour 0;", 4, 7);
        fault("honour 99;", 0, -1);
        fault("honour 100;", 4, 7);
        fault("draw 0;", 0, -1);
        fault("draw 1000;", 4, 5);
        fault(men(2) + "duel a with b on 0;", 4, 26 + 17);
        fault(men(2) + "duel a with b on 1000;", 4, 26 + 17);
    }

    private static void promise5Names() {
        fault("man a dies 1;man a dies 1;", 3, 17);
        fault("kind k 1;kind k 1;", 3, 14);
        fault("kind k 1;reason r of k;reason r of k;", 3, 30);
        fault("man a dies 1;kind a 1;reason a of a by a;", 0, -1);
        fault(men(2) + "duel a with a on 3;", 3, 26 + 12);
        fault(men(2) + "duel a with b on 3;duel b with a on 4;", 3, 26 + 31);
        fault(men(2) + "duel a with b on 3;duel a with b on 4;", 3, 26 + 31);
        fault(men(2) + "duel a with c on 3;", 5, 26 + 12);
        fault(men(2) + "duel c with c on 3;", 5, 26 + 5);
        fault(men(1) + "man b dies 1 son c;", 5, 13 + 17);
        fault("reason r of k;kind k 1;", 5, 12);
        fault("kind k 1;reason r of k by a;man a dies 1;", 5, 26);
        fault("man day dies 1;", 2, 4);
        fault("man or dies 1;", 2, 4);
        fault("man days dies 1;", 0, -1);
    }

    private static void promises6To8() {
        DuelDelays x = Checks.land(LAND);
        int[] a = {1, 5, -1, 30, 0, -2};
        int[] c = {1, 0, 0, 90, 0, -2};
        for (int what = 0; what < a.length; what++) {
            C.due("man(0, " + what + ")", x.man(0, what), a[what]);
            C.due("man(2, " + what + ")", x.man(2, what), c[what]);
        }
        C.due("man(0, -1)", x.man(0, -1), -2);
        C.due("man(3, 0)", x.man(3, 0), -2);
        C.due("man(-1, 0)", x.man(-1, 0), -2);
        int[] duel = {0, 1, 8, -1, 1, 0, -2};
        for (int what = 0; what < duel.length; what++) {
            C.due("duel(0, " + what + ")", x.duel(0, what), duel[what]);
        }
        C.due("duel(0, -1)", x.duel(0, -1), -2);
        C.due("duel(1, 0)", x.duel(1, 0), -2);
        C.due("duel(-1, 0)", x.duel(-1, 0), -2);
        int[][] reasons = {{0, 0, 0, 999, 0, 0, 0, 0, -2}, {1, -1, 0, 999, 0, 1, 0, 0, -2},
            {0, -1, 10, 20, 0, 2, 0, 0, -2}, {1, 1, 0, 999, 2, 0, 0, 0, -2}};
        for (int r = 0; r < 4; r++) {
            for (int what = 0; what < 9; what++) {
                C.due("reason(" + r + ", " + what + ")", x.reason(r, what), reasons[r][what]);
            }
        }
        C.due("reason(4, 0)", x.reason(4, 0), -2);
        C.due("reason(-1, 0)", x.reason(-1, 0), -2);
        C.due("reason(0, -1)", x.reason(0, -1), -2);
        x.put(0, 0, 1);
        x.put(0, 1, 1);
        C.due("each twice: reason(1, 7)", x.reason(1, 7), 2);
        C.due("duel(0, 5)", x.duel(0, 5), 2);
        C.due("HONOUR of the later one", x.duel(0, 3), 1);
        x.days(30);
        C.due("a is dead: jane is nobody's", x.reason(0, 1), -1);
        C.due("a is dead", x.man(0, 0), 0);
    }

    private static int worthOf(String formula, int day) {
        DuelDelays x = Checks.land(men(2) + "kind k " + formula + ";reason r of k;duel a with b on 3;");
        return x.worth(0, 0, day);
    }

    private static void promise9() {
        String[] formulas = {"1+2*3", "(1+2)*3", "7/2", "7%4", "0-7/2+20", "7/0+4", "7%0+4", "2<3", "day", "day", "day",
            "400", "0", "0-5", "not 0+4", "not 5+9", "3 and 4", "3 or 4", "10*(3 and 4)", "10*(0 or 4)", "10*(0 and 4)",
            "10*(5>4)", "10*(4>5)", "10*(4=4)", "9-3-2", "100/10/5", "9999*9999*9999", "(0-7)/2+20", "(0-7)%4+20",
            "9999*9999*9999%1000+500", "10*(not not 7)", "10*(1 or 0 and 0)", "day/day", "8*2%5",
            "10*(0 or 0)", "10*(0 or 1)", "10*(3 and 1)", "10*(3 and 0)", "10*(4>4)", "10*(4<4)", "10*(1 or 1 and 0)"};
        int[] days = new int[formulas.length];
        days[9] = 365;
        days[10] = 9999;
        int[] want = {7, 9, 3, 3, 17, 4, 4, 1, 1, 365, 365, 365, 1, 1, 1, 1, 1, 1, 10, 10, 1, 10, 1, 10, 4, 2,
            clamp(9999 * 9999 * 9999), 17, 17, clamp(9999 * 9999 * 9999 % 1000 + 500), 10, 10, 1, 1,
            1, 10, 10, 1, 1, 1, 10};
        for (int i = 0; i < formulas.length; i++) {
            C.due("worth by " + formulas[i] + " on " + days[i], worthOf(formulas[i], days[i]), want[i]);
        }
        C.due("10000", worthOf("1", 10000), -1);
        C.due("-1", worthOf("1", -1), -1);
        DuelDelays x = Checks.land(men(3) + "kind k 100*uses+10*spent+day;kind q 50;reason r of k;reason s of q;"
            + "reason t of k;duel a with b on 3;duel a with c on 4;");
        C.due("first", x.worth(0, 0, 4), 4);
        x.put(0, 0, 1);
        C.due("spent 1", x.worth(0, 0, 4), 14);
        x.put(0, 1, 2);
        C.due("spent 2, uses 1", x.worth(0, 0, 4), 124);
        C.due("used already, worth all the same", x.worth(0, 2, 4), 124);
        C.due("of the other DUEL", x.worth(1, 0, 4), 4);
        C.due("none such", x.worth(2, 0, 4), -1);
        C.due("none such", x.worth(0, 3, 4), -1);
        C.due("none such", x.worth(-1, 0, 4), -1);
        C.due("none such", x.worth(0, -1, 4), -1);
        x.days(9);
        C.due("not OPEN", x.duel(0, 4), 0);
        C.due("not OPEN, worth all the same", x.worth(0, 0, 4), 124);
    }

    private static int clamp(int n) {
        return Math.max(1, Math.min(365, n));
    }

    private static void promise10() {
        DuelDelays x = Checks.land(LAND);
        C.due("may(0, 0)", x.may(0, 0), 3);
        C.due("may(0, 1)", x.may(0, 1), 10);
        C.due("may(0, 2)", x.may(0, 2), -1);
        C.due("may(0, -1)", x.may(0, -1), -1);
        C.due("may(1, 0)", x.may(1, 0), -1);
        C.due("may(-1, 0)", x.may(-1, 0), -1);
        x.rent(0, 3);
        C.due("RENTED", x.may(0, 0), 11);
        x.strike(1);
        C.due("STRUCK", x.may(0, 0), 9);
        x.put(0, 0, 0);
        x.days(9);
        C.due("from: a DAY ahead", x.may(0, 0), 8);
        x.days(1);
        C.due("from", x.may(0, 0), 12);
        x.put(0, 0, 2);
        x.undo();
        x.put(0, 0, 3);
        x.days(6);
        C.due("not OPEN", x.may(0, 0), 0);
        DuelDelays y = Checks.land("man a dies 99;man b dies 99;kind k 1;reason r of k from 2 to 3;duel a with b on 5;");
        C.due("on 0", y.may(0, 0), 0);
        y.days(2);
        C.due("on 2", y.may(0, 0), 1);
        y.days(1);
        C.due("on 3", y.may(0, 0), 1);
        y.days(1);
        C.due("on 4", y.may(0, 0), 0);
    }

    private static void promise10Sorts() {
        DuelDelays x = Checks.land(men(3) + "kind k 1;reason once of k;reason ea of k each;reason al of k all;"
            + "duel a with b on 3;duel b with c on 4;");
        C.due("all three", x.may(0, 0), 7);
        x.put(0, 0, 0);
        C.due("once: this SIDE", x.may(0, 0), 6);
        C.due("once: the other SIDE", x.may(0, 1), 6);
        C.due("once: the other DUEL", x.may(1, 0), 7);
        x.put(0, 0, 1);
        C.due("each: this SIDE", x.may(0, 0), 4);
        C.due("each: the other SIDE", x.may(0, 1), 6);
        C.due("each: the other DUEL", x.may(1, 0), 7);
        x.put(0, 1, 2);
        C.due("all: this SIDE", x.may(0, 1), 2);
        C.due("all: the other SIDE", x.may(0, 0), 0);
        C.due("all: the other DUEL", x.may(1, 0), 3);
        DuelDelays y = Checks.land("man a dies 2;man b dies 99;man c dies 99;kind k 1;reason r of k by a;"
            + "duel b with c on 5;");
        C.due("another's", y.may(0, 0), 0);
        y.days(2);
        C.due("a dead man's is nobody's", y.may(0, 0), 1);
        C.due("put by it", y.put(0, 1, 0), 6);
    }

    private static void promises11To14() {
        DuelDelays x = Checks.land("man a dies 50;man b dies 50 son a;man c dies 50 son b;man d dies 4 son a;man e dies 9;"
            + "kind k 4;reason r of k by c;reason s of k;duel a with e on 7;duel c with e on 5;duel b with e on 5;");
        C.due("next(0)", x.next(0), 5);
        C.due("next(1)", x.next(1), 1);
        C.due("next(2)", x.next(2), -1);
        C.due("next(-1)", x.next(-1), -1);
        C.due("his(2)", x.his(2), 3);
        C.due("his(4)", x.his(4), 2);
        C.due("his(3)", x.his(3), 0);
        C.due("his(5)", x.his(5), -1);
        C.due("his(-1)", x.his(-1), -1);
        x.put(1, 0, 1);
        C.due("next(0) behind a put", x.next(0), 5);
        C.due("next(1) behind a put", x.next(1), 2);
        C.due("his(4): in some other DUEL", x.his(4), 2);
        C.due("heir(0)", x.heir(0), 1);
        C.due("heir(1)", x.heir(1), 2);
        C.due("heir(2)", x.heir(2), -1);
        C.due("heir(5)", x.heir(5), -1);
        C.due("heir(-1)", x.heir(-1), -1);
        C.due("comes(0, 2)", x.comes(0, 2), 2);
        C.due("comes(0, 1)", x.comes(0, 1), 1);
        C.due("comes(0, 3)", x.comes(0, 3), 1);
        C.due("comes(1, 3)", x.comes(1, 3), 0);
        C.due("comes(2, 0)", x.comes(2, 0), 0);
        C.due("comes(0, 0)", x.comes(0, 0), 0);
        C.due("comes(5, 0)", x.comes(5, 0), -1);
        C.due("comes(0, 5)", x.comes(0, 5), -1);
        C.due("comes(-1, 0)", x.comes(-1, 0), -1);
        x.days(50);
        C.due("next of none", x.next(0), -1);
        C.due("next of none", x.next(1), -1);
        C.due("comes of the dead", x.comes(0, 2), 2);
        C.due("heir when all are dead", x.heir(0), -1);
    }

    private static void promise15() {
        DuelDelays x = Checks.land(LAND);
        C.due("put(0, 0, 3): another's", x.put(0, 0, 3), -1);
        C.due("put(0, 0, 2): too early", x.put(0, 0, 2), -1);
        C.due("put(1, 0, 0)", x.put(1, 0, 0), -1);
        C.due("put(-1, 0, 0)", x.put(-1, 0, 0), -1);
        C.due("put(0, 2, 0)", x.put(0, 2, 0), -1);
        C.due("put(0, -1, 0)", x.put(0, -1, 0), -1);
        C.due("put(0, 0, 4)", x.put(0, 0, 4), -1);
        C.due("put(0, 0, -1)", x.put(0, 0, -1), -1);
        C.due("nothing was done", x.about(9), 0);
        C.due("put(0, 0, 1)", x.put(0, 0, 1), 11);
        C.due("put(0, 0, 1) again", x.put(0, 0, 1), -1);
        C.due("put(0, 1, 1)", x.put(0, 1, 1), 15);
        C.due("put(0, 1, 3)", x.put(0, 1, 3), 20);
        C.due("an ACT each", x.about(9), 3);
        C.due("WORTH in the LOG", x.log(2, 4), 5);
        x.days(20);
        C.due("not OPEN", x.put(0, 0, 0), -1);
        // so far that both are dead of age by then
        DuelDelays y = Checks.land("man a dies 1;man b dies 2;kind k 365;reason q of k each;reason r of k each;");
        C.due("insult", y.insult(0, 1), 0);
        for (int i = 0; i < 4; i++) {
            y.put(0, i % 2, i / 2);
        }
        C.due("four times 365", y.duel(0, 2), 9 + 4 * 365);
    }

    private static void promise16() {
        DuelDelays x = Checks.land("man a dies 9 coin 5;man b dies 20 coin 3;man c dies 20;kind k 1;reason r of k by a rent 4;"
            + "reason s of k;reason t of k by b rent 2;reason u of k by b;");
        C.due("his own", x.rent(0, 0), -1);
        C.due("nobody's", x.rent(0, 1), -1);
        C.due("has not so much", x.rent(1, 0), -1);
        C.due("rent(3, 0)", x.rent(3, 0), -1);
        C.due("rent(-1, 0)", x.rent(-1, 0), -1);
        C.due("rent(0, 4)", x.rent(0, 4), -1);
        C.due("rent(0, -1)", x.rent(0, -1), -1);
        C.due("nothing was done", x.about(9), 0);
        C.due("rent(0, 2)", x.rent(0, 2), 3);
        C.due("from his coin to that one's", x.man(1, 1), 5);
        C.due("has RENTED it", x.rent(0, 2), -1);
        C.due("rent for nothing", x.rent(2, 3), 0);
        C.due("rent(1, 0) with more", x.rent(1, 0), 1);
        C.due("man(1, 4)", x.man(1, 4), 1);
        C.due("man(0, 4)", x.man(0, 4), 4);
        C.due("man(0, 1)", x.man(0, 1), 7);
        x.strike(3);
        C.due("a STRUCK one", x.rent(0, 3), 7);
        x.days(9);
        C.due("of a dead man", x.rent(2, 0), -1);
        C.due("by a dead man", x.rent(0, 3), -1);
        C.due("ACTS", x.about(9), 6);
    }

    private static void promise17() {
        DuelDelays x = Checks.land(LAND);
        C.due("strike(4)", x.strike(4), false);
        C.due("strike(-1)", x.strike(-1), false);
        C.due("nothing was done", x.about(9), 0);
        C.due("strike(3)", x.strike(3), true);
        C.due("reason(3, 6)", x.reason(3, 6), 1);
        C.due("reason(2, 6)", x.reason(2, 6), 0);
        C.due("strike(3) again", x.strike(3), false);
        C.due("may", x.may(0, 1), 2);
        C.due("put", x.put(0, 1, 3), -1);
        C.due("one ACT", x.about(9), 1);
    }

    private static void promise18() {
        DuelDelays x = Checks.land(men(6) + "duel a with b on 2;honour 3;");
        C.due("insult(0, 0)", x.insult(0, 0), -1);
        C.due("insult(1, 0): an OPEN one", x.insult(1, 0), -1);
        C.due("insult(6, 0)", x.insult(6, 0), -1);
        C.due("insult(0, -1)", x.insult(0, -1), -1);
        C.due("insult(-1, 0)", x.insult(-1, 0), -1);
        C.due("nothing was done", x.about(9), 0);
        C.due("days(2)", x.days(2), 2);
        C.due("b fell", x.about(6), 61);
        C.due("insult of the dead", x.insult(0, 1), -1);
        C.due("insult by the dead", x.insult(1, 0), -1);
        C.due("insult(2, 0)", x.insult(2, 0), 1);
        C.due("duel(1, 0)", x.duel(1, 0), 2);
        C.due("duel(1, 1)", x.duel(1, 1), 0);
        C.due("duel(1, 2)", x.duel(1, 2), 5);
        C.due("duel(1, 3)", x.duel(1, 3), -1);
        C.due("duel(1, 4)", x.duel(1, 4), 1);
        for (int i = 0; i < 3; i++) {
            C.due("insult(0, " + (i + 3) + ")", x.insult(0, i + 3), i + 2);
        }
        C.due("insult(2, 3)", x.insult(2, 3), 5);
        C.due("insult(2, 4)", x.insult(2, 4), 6);
        C.due("insult(2, 5)", x.insult(2, 5), 7);
        C.due("a ninth", x.insult(3, 4), -1);
        C.due("shun with eight", x.shun(3), -1);
        x.undo();
        C.due("shun with seven", x.shun(3), 48);
        // a new one with whom one was OPEN no more
        DuelDelays y = Checks.land("man a dies 2;man b dies 9 son a;man c dies 9;duel a with b on 3;duel a with c on 3;"
            + "duel b with c on 5;");
        y.days(2);
        C.due("the heir is the other one", y.duel(0, 4), 0);
        C.due("the heir has an OPEN one", y.duel(1, 4), 0);
        C.due("goes on", y.duel(2, 4), 1);
        C.due("its SIDE stays", y.duel(1, 0), 0);
    }

    private static void promise19() {
        DuelDelays x = Checks.land("man a dies 5;man b dies 999;");
        C.due("days(-1)", x.days(-1), -1);
        C.due("days(401)", x.days(401), -1);
        C.due("nothing was done", x.about(9), 0);
        C.due("days(0)", x.days(0), 0);
        C.due("days(0) is an ACT", x.about(9), 1);
        C.due("days(4)", x.days(4), 4);
        C.due("alive", x.man(0, 0), 1);
        C.due("days(1)", x.days(1), 5);
        C.due("dead", x.man(0, 0), 0);
        for (int i = 1; i <= 22; i++) {
            x.days(400);
        }
        C.due("days(195)", x.days(195), 9000);
        C.due("days(1) at the end", x.days(1), -1);
        C.due("days(0) at the end", x.days(0), 9000);
        C.due("all dead", x.about(6), 0);
        // draw 7: 30, even, SIDE 0; 4181: 181, odd, SIDE 1
        DuelDelays y = Checks.land(men(4) + "duel a with b on 2;duel c with d on 2;draw 7;");
        C.due("days(1)", y.days(1), 1);
        C.due("the SEED ahead", y.about(5), 7);
        C.due("days(1)", y.days(1), 2);
        C.due("the SEED", y.about(5), 181);
        C.due("who lives", y.about(6), 2 + 4);
        C.due("OPEN", y.about(7), 0);
        // one who fell ahead does not fight again
        DuelDelays z = Checks.land(men(3) + "duel a with b on 2;duel a with c on 2;draw 7;");
        z.days(2);
        C.due("one fight", z.about(5), 30);
        C.due("who lives", z.about(6), 6);
        C.due("MORNING stays", z.duel(1, 2), 2);
    }

    private static void promise19Inheriting() {
        // a dies of age on 3, his son c inherits, who dies on 3 too: d, the son of c, does
        DuelDelays x = Checks.land("man a dies 3;man b dies 9;man c dies 3 son a;man d dies 9 son c;man e dies 9 son a;"
            + "duel b with a on 3;draw 0;");
        x.days(3);
        C.due("SIDE 1 is d's", x.duel(0, 1), 3);
        C.due("71: SIDE 1 falls", x.man(3, 0), 0);
        C.due("b lives", x.man(1, 0), 1);
        C.due("e lives", x.man(4, 0), 1);
        // a falls on 2; his son fights for him on the same MORNING
        DuelDelays y = Checks.land("man a dies 9;man b dies 9;man c dies 9;man d dies 9 son a;man e dies 9 son a;"
            + "duel a with b on 2;duel a with c on 2;duel a with d on 4;duel c with e on 8;draw 7;");
        y.days(1);
        C.due("heir", y.heir(0), 3);
        y.days(1);
        C.due("30 then 181", y.about(5), 181);
        C.due("the fallen keeps his SIDE", y.duel(0, 0), 0);
        C.due("d has the next one", y.duel(1, 0), 3);
        C.due("c fell to d", y.about(6), 2 + 8 + 16);
        C.due("the heir is the other one", y.duel(2, 4), 0);
        C.due("nobody inherits of c", y.duel(3, 4), 0);
        // HONOUR stays his who put it off
        DuelDelays z = Checks.land("man a dies 2;man b dies 9;man c dies 9 son a;kind k 4;reason r of k each;"
            + "reason s of k by a;duel a with b on 3;");
        z.put(0, 0, 0);
        z.days(2);
        C.due("the son's SIDE", z.duel(0, 0), 2);
        C.due("HONOUR", z.duel(0, 3), 0);
        C.due("each: his SIDE has used it", z.may(0, 0), 2);
        C.due("began", z.began(0), 0);
        C.due("life: the son", z.life(0), 1);
        C.due("lies: the son", z.lies(0), 21);
    }

    private static void promises20And21() {
        DuelDelays x = Checks.land(LAND);
        C.due("redo of none", x.redo(), false);
        x.put(0, 0, 0);
        x.rent(0, 3);
        x.strike(1);
        x.insult(2, 1);
        x.days(4);
        for (int i = 5; i > 0; i--) {
            C.due("ACTS", x.about(9), i);
            C.due("undo", x.undo(), true);
        }
        C.due("undo of none", x.undo(), false);
        C.due("as it was", x.duel(0, 2), 8);
        C.due("the LOG, too", x.about(8), 0);
        C.due("coin", x.man(0, 1), 5);
        C.due("SEED", x.about(5), 7);
        C.due("to be redone", x.about(10), 5);
        C.due("redo", x.redo(), true);
        C.due("MORNING", x.duel(0, 2), 13);
        C.due("LOG", x.log(0, 4), 5);
        C.due("redo", x.redo(), true);
        C.due("coin", x.man(0, 1), 3);
        C.due("a failing call is no ACT", x.rent(0, 3), -1);
        C.due("to be redone", x.about(10), 3);
        x.days(0);
        C.due("another ACT", x.about(10), 0);
        C.due("redo", x.redo(), false);
        DuelDelays y = new DuelDelays();
        for (int i = 0; i < 45; i++) {
            y.days(1);
        }
        C.due("40 are kept", y.about(9), 40);
        for (int i = 0; i < 40; i++) {
            C.due("undo", y.undo(), true);
        }
        C.due("the oldest are gone", y.undo(), false);
        C.due("the DAY", y.about(4), 5);
        for (int i = 0; i < 40; i++) {
            C.due("redo", y.redo(), true);
        }
        C.due("redo", y.redo(), false);
        C.due("the DAY", y.about(4), 45);
    }

    private static void promise22() {
        DuelDelays x = Checks.land(LAND);
        C.due("life(0)", x.life(0), 5);
        int[] want = {0, 1, 2, 11, 13, -1};
        for (int i = 0; i < want.length; i++) {
            C.due("lies(" + i + ")", x.lies(i), want[i]);
        }
        C.due("nothing is done", x.about(9), 0);
        C.due("life(1)", x.life(1), -1);
        C.due("nothing lies there", x.about(15), 0);
        C.due("life(-1)", x.life(-1), -1);
        x.strike(2);
        C.due("none by fewer", x.life(0), -1);
        x.days(8);
        C.due("not OPEN", x.life(0), -1);
        // a MORNING on which one is dead already needs none
        DuelDelays y = Checks.land("man a dies 5;man b dies 9;duel a with b on 5;");
        C.due("none needed", y.life(0), 0);
        C.due("nothing lies there", y.about(15), 0);
        // fewest, then SIDE, then number
        DuelDelays z = Checks.land("man a dies 12;man b dies 20;kind k 3;kind q 7;reason r of k;reason s of k;"
            + "reason t of q by b;reason u of q by b;duel a with b on 5;");
        C.due("one is enough", z.life(0), 1);
        C.due("the first of them", z.lies(0), 12);
    }

    private static void promise22Spent() {
        // 16 uses of one day each: 2 to the 16th states, all far ahead of the death
        String many = "man a dies 400;man b dies 400;kind k 1;";
        for (int i = 0; i < 8; i++) {
            many += "reason " + (char) ('a' + i) + " of k each;";
        }
        DuelDelays x = Checks.land(many + "duel a with b on 5;");
        C.due("SPENT", x.life(0), -2);
        C.due("nothing lies there", x.about(15), 0);
        // 1 + 16 + 120 + 560 + 1820 are 2517; with 4368 more it is SPENT
        C.due("late by 4", x.late(0, 4), 9);
        C.due("late by 5", x.late(0, 5), -2);
        C.due("last", x.last(0, 0), -2);
        C.due("shun has none to shun", x.shun(0), 0);
        C.due("hire", x.hire(0, 0), -1);
        DuelDelays y = Checks.land(many + "man c dies 400;duel a with b on 5;");
        C.due("shun SPENT", y.shun(2), -2);
        // LIFE by 4 is found ahead of the fifth number, by 5 it is not
        DuelDelays z = Checks.land(many.replace("dies 400", "dies 9") + "duel a with b on 5;");
        C.due("life by 4", z.life(0), 4);
        C.due("the first", z.lies(3), 3);
        DuelDelays w = Checks.land(many.replace("dies 400", "dies 10") + "duel a with b on 5;");
        C.due("life by 5", w.life(0), -2);
        border();
    }

    /** 3,000 states are come to, or one more. */
    private static void border() {
        DuelDelays x = Checks.land("man a dies 73;man b dies 99;kind a 11-spent;kind b 1;kind c 6+day%2*5;"
            + "reason a of b by b each;reason b of a each;reason c of a by a each;reason d of a by a from 4;"
            + "reason e of b by a each;reason f of a;reason g of a;reason h of c by b from 19;duel a with b on 5;");
        C.due("3,000 states", x.late(0, 5), 54);
        DuelDelays y = Checks.land("man a dies 67;man b dies 99;kind a 9-uses;kind b day%5;kind c 6+day%2*5;"
            + "reason a of c each;reason b of b by a each;reason c of a by a from 14;reason d of b each;"
            + "reason e of c by a;reason f of a by a;reason g of c by a each;duel a with b on 5;");
        C.due("3,001 states", y.late(0, 6), -2);
        DuelDelays z = Checks.land("man a dies 63;man b dies 99;kind a 8;kind b 8;kind c 5+day%3;"
            + "reason a of b by b from 0;reason b of c by b;reason c of a;reason d of b by b;reason e of a each;"
            + "reason f of a by b;reason g of b by a each;reason h of b each;duel a with b on 5;");
        C.due("LIFE by 8, but 3,001 states", z.life(0), -2);
    }

    private static void promise22OthersDie() {
        // c's REASON is nobody's from the DAY on which he dies of age
        String text = "man a dies 20;man b dies 30;man c dies 8;kind k 4;kind q 9;reason r of k;reason s of q by c;"
            + "duel a with b on 5;";
        DuelDelays x = Checks.land(text);
        C.due("not on 5", x.worth(0, 1, 5), 9);
        C.due("may not yet", x.may(0, 0), 1);
        C.due("first to 9, then by c's to 18", x.late(0, 2), 18);
        C.due("no LIFE", x.life(0), -1);
        DuelDelays y = Checks.land(text.replace("man a dies 20", "man a dies 18"));
        C.due("LIFE", y.life(0), 2);
        C.due("r", y.lies(0), 0);
        C.due("s", y.lies(1), 1);
    }

    private static void promise23() {
        DuelDelays x = Checks.land(LAND);
        int[] want = {8, 13, 18, 21, 25, 30, 30};
        for (int n = 0; n < want.length; n++) {
            C.due("late(0, " + n + ")", x.late(0, n), want[n]);
        }
        C.due("late(0, 16)", x.late(0, 16), 30);
        C.due("late(0, 17)", x.late(0, 17), -1);
        C.due("late(0, -1)", x.late(0, -1), -1);
        C.due("late(1, 1)", x.late(1, 1), -1);
        C.due("late(-1, 1)", x.late(-1, 1), -1);
        // none on a MORNING that is not ahead of the death
        DuelDelays y = Checks.land("man a dies 9;man b dies 20;kind k 5;reason r of k;reason s of k;reason t of k;"
            + "duel a with b on 5;");
        C.due("late by 1", y.late(0, 1), 10);
        C.due("late by 3", y.late(0, 3), 10);
        C.due("what lies there stays", y.life(0), 1);
        y.late(0, 3);
        C.due("what lies there stays", y.about(15), 1);
        y.days(5);
        C.due("not OPEN", y.late(0, 1), -1);
    }

    private static void promise24() {
        DuelDelays x = Checks.land("man a dies 90;man b dies 90;kind k 2;reason r of k;reason s of k by b;"
            + "duel a with b on 5;");
        C.due("a uses r, b uses s, a has none", x.last(0, 0), 0);
        C.due("b uses r, a has none", x.last(0, 1), 10);
        C.due("last(0, 2)", x.last(0, 2), -1);
        C.due("last(0, -1)", x.last(0, -1), -1);
        C.due("last(1, 0)", x.last(1, 0), -1);
        C.due("last(-1, 0)", x.last(-1, 0), -1);
        x.put(0, 0, 0);
        C.due("b wins by s", x.last(0, 1), 11);
        // whose turn it is on a MORNING behind the death loses: by the second REASON, not the first
        DuelDelays y = Checks.land("man a dies 12;man b dies 90;kind k 2;kind q 9;reason r of k;reason s of q;reason t of k;"
            + "duel a with b on 5;");
        C.due("a wins by s", y.last(0, 0), 11);
        DuelDelays z = Checks.land("man a dies 12;man b dies 90;kind q 9;reason s of q;duel a with b on 12;");
        C.due("his turn on the DAY itself", z.last(0, 0), 0);
        z.days(12);
        C.due("not OPEN", z.last(0, 0), -1);
    }

    private static void promise25() {
        DuelDelays x = Checks.land(LAND);
        C.due("shun(0)", x.shun(0), 4);
        C.due("shun(1)", x.shun(1), 4);
        C.due("shun(2)", x.shun(2), 3);
        C.due("shun(3)", x.shun(3), -1);
        C.due("shun(-1)", x.shun(-1), -1);
        x.days(30);
        C.due("of the dead", x.shun(0), -1);
        DuelDelays y = Checks.land("man a dies 9;man b dies 50;man c dies 4;kind k 5;reason r of k;honour 4;");
        C.due("with c no REASON is needed, with a one is", y.shun(1), 0);
        y.strike(0);
        C.due("with c no REASON is needed", y.shun(1), 1);
    }

    private static void promise26() {
        DuelDelays x = Checks.land("man a dies 20;man b dies 30;man c dies 40;kind k 9;reason r of k by c rent 7;"
            + "reason t of k by c rent 3;duel a with b on 5;");
        C.due("hire(0, 0)", x.hire(0, 0), 10);
        C.due("lies(0)", x.lies(0), 3);
        C.due("about(15)", x.about(15), 1);
        C.due("hire(0, 1)", x.hire(0, 1), 10);
        C.due("hire(0, 2)", x.hire(0, 2), -1);
        C.due("nothing lies there", x.about(15), 0);
        C.due("hire(0, -1)", x.hire(0, -1), -1);
        C.due("hire(1, 0)", x.hire(1, 0), -1);
        C.due("hire(-1, 0)", x.hire(-1, 0), -1);
        x.strike(0);
        C.due("none", x.hire(0, 0), -1);
        x.days(5);
        C.due("not OPEN", x.hire(0, 0), -1);
        // fewest coins ahead of fewest REASONS; of like ones the least set
        DuelDelays y = Checks.land("man a dies 20 coin 9;man b dies 30;man c dies 40;kind k 8;kind q 15;"
            + "reason r of q by c rent 7;reason s of k by c rent 3;reason t of k by c rent 3;reason u of q by c rent 6;"
            + "duel a with b on 5;");
        C.due("hire", y.hire(0, 0), 6);
        C.due("two small ones, set 6, not 8", y.lies(0), 6);
        y.rent(0, 1);
        C.due("RENTED already", y.hire(0, 0), 3);
        C.due("set 4", y.lies(0), 4);
        C.due("the other SIDE has not RENTED it, but a uses it", y.hire(0, 1), 3);
        // an each of the other SIDE is worth renting, one for both once is not
        DuelDelays z = Checks.land("man a dies 20;man b dies 30;kind k 8;reason r of k by b rent 5;"
            + "reason s of k by b rent 4 each;duel a with b on 3;");
        C.due("LIFE needs a third", z.hire(0, 0), 4);
        C.due("the each", z.lies(0), 2);
        C.due("none is another's than b's", z.hire(0, 1), -1);
    }

    private static void promise27() {
        DuelDelays x = Checks.land(men(6) + "duel a with b on 6;duel a with c on 6;duel d with a on 6;duel a with e on 7;"
            + "duel f with a on 7;duel b with c on 8;");
        C.due("clash(0)", x.clash(0), 2);
        C.due("clash(1)", x.clash(1), 0);
        C.due("clash(6)", x.clash(6), -1);
        C.due("clash(-1)", x.clash(-1), -1);
        x.days(6);
        C.due("clash of the dead or parted", x.clash(0), x.man(0, 0) == 1 ? 1 : 0);
    }

    private static void promise28() {
        DuelDelays x = Checks.land("man a dies 50;man b dies 60;man c dies 70;man d dies 5 son a;kind k 10;reason r of k;"
            + "reason s of k by c rent 4;duel a with b on 6;duel a with c on 6;honour 2;");
        C.due("part(0)", x.part(0), 1);
        C.due("lies(0)", x.lies(0), 0);
        C.due("part(1)", x.part(1), 0);
        C.due("nothing lies there", x.about(15), 0);
        C.due("part(4)", x.part(4), -1);
        C.due("part(-1)", x.part(-1), -1);
        x.strike(0);
        C.due("by c's alone", x.part(0), 1);
        C.due("DUEL 1, SIDE 1, REASON 1", x.lies(0), 111);
        x.strike(1);
        C.due("none", x.part(0), -1);
        C.due("nothing lies there", x.about(15), 0);
        // three on one MORNING: two REASONS that differ
        String three = men(4) + "kind k 3;kind q 4;reason r of k;reason s of k;reason t of q by c;duel a with b on 6;"
            + "duel a with c on 6;duel a with d on 6;";
        DuelDelays y = Checks.land(three);
        C.due("part", y.part(0), 2);
        C.due("first", y.lies(0), 0);
        C.due("then", y.lies(1), 112);
        // one that is once for all serves one DUEL only
        DuelDelays z = Checks.land(three.replace("reason t of q by c", "reason t of spent+day+1 all")
            .replace("spent+day+1", "k"));
        C.due("by like worths no part", z.part(0), -1);
        DuelDelays w = Checks.land(men(4) + "kind k 3+uses;reason r of k all;duel a with b on 6;duel a with c on 6;"
            + "duel a with d on 6;");
        C.due("once for all is not enough", w.part(0), -1);
        // two clashes, one REASON in each
        DuelDelays v = Checks.land(men(5) + "kind k 3;reason r of k;duel a with b on 6;duel a with c on 6;"
            + "duel a with d on 7;duel a with e on 7;");
        C.due("part", v.part(0), 2);
        C.due("first", v.lies(0), 0);
        C.due("then", v.lies(1), 200);
        String two = men(5) + "kind k 3;reason r of k all;duel a with b on 6;duel a with c on 6;duel a with d on 7;"
            + "duel a with e on 7;";
        C.due("once for all: not in both", Checks.land(two).part(0), -1);
        DuelDelays u = Checks.land(two.replace("all;", "all;reason s of k all;"));
        C.due("but by another", u.part(0), 2);
        C.due("first", u.lies(0), 0);
        C.due("then", u.lies(1), 201);
    }

    private static void promise29() {
        DuelDelays x = Checks.land(LAND);
        C.due("lies(0)", x.lies(0), -1);
        x.life(0);
        C.due("lies(-1)", x.lies(-1), -1);
        C.due("lies(4)", x.lies(4), 13);
        C.due("lies(5)", x.lies(5), -1);
        x.put(0, 0, 0);
        x.undo();
        C.due("stays behind ACTS", x.lies(4), 13);
        x.falses(0);
        C.due("none FALSE", x.about(15), 0);
    }

    private static void promises30And31() {
        DuelDelays x = Checks.land(LAND);
        C.due("began(0)", x.began(0), -1);
        C.due("began(1)", x.began(1), -2);
        C.due("began(-1)", x.began(-1), -2);
        C.due("log(0, 0)", x.log(0, 0), -1);
        x.days(2);
        x.put(0, 1, 1);
        x.put(0, 0, 0);
        int[][] lines = {{0, 1, 1, 2, 3, -1}, {0, 0, 0, 2, 5, -1}};
        for (int i = 0; i < 2; i++) {
            for (int what = 0; what < 6; what++) {
                C.due("log(" + i + ", " + what + ")", x.log(i, what), lines[i][what]);
            }
        }
        C.due("log(0, -1)", x.log(0, -1), -1);
        C.due("log(-1, 0)", x.log(-1, 0), -1);
        C.due("log(2, 0)", x.log(2, 0), -1);
        C.due("began(0)", x.began(0), 1);
        // the first 60 alone
        String text = men(6) + "kind k 1;";
        for (int i = 0; i < 8; i++) {
            text += "reason " + (char) ('a' + i) + " of k each;";
        }
        DuelDelays y = Checks.land(text);
        int puts = 0;
        for (int i = 0; i < 5; i++) {
            y.insult(0, i + 1);
            for (int move = 0; move < 16; move++) {
                y.put(i, move / 8, move % 8);
                puts++;
            }
        }
        C.due("lines", y.about(8), Math.min(60, puts));
        C.due("used all the same", y.duel(4, 5), 16);
        C.due("the last line", y.log(59, 0), 3);
        C.due("began by the LOG", y.began(3), 0);
        C.due("not in the LOG", y.began(4), -1);
        C.due("log(60, 0)", y.log(60, 0), -1);
        y.sight(0, 9000);
        y.sight(1, 9000);
        C.due("falses: the first eight lie there", y.falses(0), 16);
        C.due("about(15)", y.about(15), 8);
        C.due("lies(2)", y.lies(2), 8);
    }

    private static void promises32To35() {
        DuelDelays x = Checks.land(LAND);
        x.put(0, 0, 0);
        x.days(5);
        x.put(0, 0, 1);
        C.due("sight(0, 0)", x.sight(0, 0), 0);
        C.due("on the same DAY", x.falses(0), 0);
        C.due("sight(0, 1)", x.sight(0, 1), 1);
        C.due("on a later DAY", x.falses(0), 1);
        C.due("lies(0)", x.lies(0), 0);
        C.due("sight(1, 5)", x.sight(1, 5), 2);
        C.due("on the same DAY", x.falses(0), 1);
        C.due("later(3)", x.later(3), 3);
        C.due("later(0)", x.later(0), 3);
        C.due("later(-1)", x.later(-1), -1);
        C.due("later(1001)", x.later(1001), -1);
        C.due("sight(1, 6)", x.sight(1, 6), 3);
        C.due("falses(2)", x.falses(2), 1);
        C.due("falses(3)", x.falses(3), 2);
        C.due("lies(1)", x.lies(1), 1);
        C.due("falses(-1)", x.falses(-1), 0);
        x.later(2);
        C.due("untell(1)", x.untell(1), true);
        C.due("untell(1) again", x.untell(1), false);
        C.due("untell(4)", x.untell(4), false);
        C.due("untell(-1)", x.untell(-1), false);
        C.due("falses(4)", x.falses(4), 2);
        C.due("falses(5)", x.falses(5), 1);
        C.due("lies(0)", x.lies(0), 1);
        C.due("SIGHTS", x.about(11), 4);
        C.due("told and untold at one TIME", x.sight(0, 9), 4);
        C.due("untell(4)", x.untell(4), true);
        C.due("falses(5)", x.falses(5), 1);
        C.due("sight(4, 0)", x.sight(4, 0), -1);
        C.due("sight(-1, 0)", x.sight(-1, 0), -1);
        C.due("sight(0, -1)", x.sight(0, -1), -1);
        C.due("sight(0, 9001)", x.sight(0, 9001), -1);
        for (int i = 5; i < 30; i++) {
            C.due("sight", x.sight(3, 9000), i);
        }
        C.due("a 31st", x.sight(3, 9000), -1);
        C.due("no ACTS", x.about(9), 3);
        x.undo();
        C.due("the LOG is shorter", x.falses(5), 0);
        DuelDelays y = new DuelDelays();
        for (int i = 0; i < 100; i++) {
            y.later(1000);
        }
        C.due("TIME", y.about(12), 100000);
        C.due("later(1)", y.later(1), -1);
        C.due("later(0)", y.later(0), 100000);
    }

    private static void promises36And37() {
        DuelDelays x = Checks.land(LAND);
        C.due("image(3)", x.image(3), -1);
        C.due("image(-1)", x.image(-1), -1);
        C.due("back(2)", x.back(2), -1);
        x.days(1);
        x.put(0, 0, 0);
        x.rent(0, 3);
        x.strike(2);
        x.insult(2, 1);
        C.due("image(2)", x.image(2), 1);
        C.due("no ACT", x.about(9), 5);
        x.sight(0, 9);
        x.put(0, 1, 3);
        x.days(400);
        x.undo();
        x.undo();
        C.due("back(0)", x.back(0), -1);
        C.due("back(3)", x.back(3), -1);
        C.due("back(-1)", x.back(-1), -1);
        C.due("nothing was done", x.about(9), 5);
        x.redo();
        x.redo();
        C.due("back(2)", x.back(2), 1);
        int[] want = {3, 2, 4, 2, 1, 7, 7, 2, 1, 0, 0, 1, 0, 0, 3, 0};
        for (int what = 0; what < want.length; what++) {
            C.due("back: about(" + what + ")", x.about(what), want[what]);
        }
        C.due("coin", x.man(0, 1), 3);
        C.due("RENTED", x.man(0, 4), 8);
        C.due("STRUCK", x.reason(2, 6), 1);
        C.due("MORNING", x.duel(0, 2), 13);
        C.due("used", x.duel(0, 5), 1);
        C.due("LOG", x.log(0, 3), 1);
        C.due("undo", x.undo(), false);
        C.due("redo", x.redo(), false);
        x.put(0, 0, 3);
        C.due("back again", x.back(2), 1);
        C.due("the BOX is as it was", x.duel(0, 2), 13);
        x.days(3);
        C.due("another image", x.image(2), 4);
        C.due("back(2)", x.back(2), 4);
    }

    private static void promise38() {
        DuelDelays x = Checks.land(LAND);
        x.days(4);
        x.insult(2, 1);
        x.put(0, 0, 0);
        x.put(1, 0, 1);
        x.undo();
        x.later(7);
        x.sight(1, 1);
        x.feed(1, 1, 1, 1, 1);
        x.life(0);
        int[] want = {3, 2, 4, 2, 4, 7, 7, 2, 1, 3, 1, 1, 7, 20, 3};
        for (int what = 0; what < want.length; what++) {
            C.due("about(" + what + ")", x.about(what), want[what]);
        }
        C.due("about(15)", x.about(15), x.life(0));
        C.due("about(16)", x.about(16), -1);
        C.due("about(-1)", x.about(-1), -1);
    }

    /** No call throws, whatever it is given. */
    private static void wildArguments() {
        int[] wild = {Integer.MIN_VALUE, Integer.MAX_VALUE, -2, 8, 31, 32, 64};
        for (int a : wild) {
            DuelDelays x = Checks.land(LAND);
            for (int b : wild) {
                C.due("put", x.put(a, b, 0), -1);
                C.due("worth", x.worth(0, 0, a), a > 0 && a < 10000 ? 5 : -1);
                C.due("may", x.may(0, a), -1);
                C.due("may", x.may(a, 0), -1);
                C.due("rent", x.rent(a, b), -1);
                C.due("insult", x.insult(a, b), -1);
                C.due("log", x.log(a, b), -1);
                C.due("sight", x.sight(a, b), -1);
                C.due("comes", x.comes(a, b), -1);
                C.due("hire", x.hire(a, b), -1);
                C.due("last", x.last(a, b), -1);
                C.due("late", x.late(a, b), -1);
                C.due("man", x.man(a, b), -2);
                C.due("duel", x.duel(a, b), -2);
                C.due("reason", x.reason(a, b), -2);
            }
            C.due("strike", x.strike(a), false);
            C.due("end", x.end(a), -1);
            C.due("image", x.image(a), -1);
            C.due("back", x.back(a), -1);
            C.due("untell", x.untell(a), false);
            C.due("lies", x.lies(a), -1);
            C.due("falses", x.falses(a), 0);
            C.due("next", x.next(a), -1);
            C.due("part", x.part(a), -1);
            C.due("clash", x.clash(a), -1);
            C.due("shun", x.shun(a), -1);
            C.due("life", x.life(a), -1);
            C.due("his", x.his(a), -1);
            C.due("heir", x.heir(a), -1);
            C.due("began", x.began(a), -2);
        }
    }
}
