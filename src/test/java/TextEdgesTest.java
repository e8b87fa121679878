import java.nio.charset.StandardCharsets;

/** The edges that '==== 1' of the document and the promises 1 to 5 name; above each test stands its sentence. */
public final class TextEdgesTest {
    private static final Checks C = new Checks();
    private static final Twins T = new Twins(C);
    private static final int BLANKS = 0x20202020;
    private static final String[] WORDS = ("man dies coin son kind reason of by from to rent all each duel with on honour"
        + " draw or and not day uses spent").split(" ");
    /** Each sort of line with all that it can have, one TOKEN behind the other. */
    private static final String WHOLE = "man a dies 9 coin 3 ; man b dies 8 coin 0 son a ; kind k not day + 2 * ( uses - spent )"
        + " / 3 % 4 < 5 and 6 > 7 or 8 = 9 ; reason r of k by a from 1 to 2 rent 3 all ; reason s of k each ;"
        + " duel a with b on 7 ; honour 5 ; draw 6 ;";

    public static void main(String[] args) {
        newObject();
        feedEdges();
        endEdges();
        feedRefused();
        codeOf1600();
        everyByte();
        words();
        numbers();
        blanks();
        asLongAsCanBe();
        letterBehindNumber();
        wordsAreNoNames();
        numbersOfLines();
        untold();
        howMany();
        onceEach();
        duelsOfTwo();
        toldAhead();
        optionsInOrder();
        thirtyUnits();
        sixtyUnits();
        withinOthers();
        firstFault();
        leastAtOnePlace();
        cantStandThere();
        theEnd();
        faultOfLatest();
        codeAnew();
        codeBehindBack();
        codeAgainAndAgain();
        codeRefused();
        C.finish("TextEdgesTest");
    }

    private static void fault(String text, int code, int place) {
        fault(text.getBytes(StandardCharsets.ISO_8859_1), text, code, place);
    }

    private static void fault(byte[] bytes, String name, int code, int place) {
        DuelDelays x = new DuelDelays();
        Checks.feed(x, bytes);
        C.due("code of [" + name + "]", x.code() < 0, code != 0);
        C.due("fault(0) of [" + name + "]", x.fault(0), code);
        C.due("fault(1) of [" + name + "]", x.fault(1), place);
        C.due("about(13) behind [" + name + "]", x.about(13), code == 0 ? 0 : bytes.length);
    }

    private static void good(String text) {
        fault(text, 0, -1);
    }

    private static String times(String s, int n) {
        return s.repeat(n);
    }

    // ---- the TAPE

    // "An empty CODE." (an empty text, nothing told, nothing kept)
    private static void newObject() {
        DuelDelays x = new DuelDelays();
        for (int what = 0; what < 16; what++) {
            C.due("new: about(" + what + ")", x.about(what), 0);
        }
        C.due("new: man", x.man(0, 0), -2);
        C.due("new: duel", x.duel(0, 0), -2);
        C.due("new: reason", x.reason(0, 0), -2);
        C.due("new: undo", x.undo(), false);
        C.due("new: redo", x.redo(), false);
        for (int box = -1; box <= 3; box++) {
            C.due("new: back", x.back(box), -1);
        }
        C.due("new: lies", x.lies(0), -1);
        C.due("new: log", x.log(0, 0), -1);
        C.due("new: code", x.code(), 0);
        C.due("new: days", x.days(0), 0);
    }

    // "how many there are; NONE, and nothing comes, if there would be more than 1,600"
    private static void feedEdges() {
        DuelDelays x = new DuelDelays();
        for (int i = 1; i <= 80; i++) {
            C.due("feed " + i, x.feed(BLANKS, BLANKS, BLANKS, BLANKS, BLANKS), 20 * i);
        }
        C.due("feed 81", x.feed(BLANKS, BLANKS, BLANKS, BLANKS, BLANKS), -1);
        C.due("bytes", x.about(13), 1600);
        for (int left : new int[] {1599, 1590, 1581}) {
            x.end(left);
            C.due("feed at " + left, x.feed(0, 0, 0, 0, 0), -1);
            C.due("bytes", x.about(13), left);
        }
        x.end(1580);
        C.due("feed at 1580", x.feed(BLANKS, BLANKS, BLANKS, BLANKS, 0x20203b20), 1600);
        C.due("code", x.code(), -1);
        C.due("what was refused did not come: the sign is the first fault", x.fault(1), 1598);
    }

    // "Twenty bytes come behind those on the TAPE, of each number the highest first"
    private static void everyByteOfFeed(int at) {
        int[] n = {BLANKS, BLANKS, BLANKS, BLANKS, BLANKS};
        n[at / 4] = BLANKS & ~(255 << (24 - at % 4 * 8)) | 0x80 << (24 - at % 4 * 8);
        DuelDelays x = new DuelDelays();
        x.feed(n[0], n[1], n[2], n[3], n[4]);
        C.due("byte " + at, x.code(), -1);
        C.due("byte " + at, x.fault(0), 1);
        C.due("byte " + at, x.fault(1), at);
        x.end(0);
        x.feed(BLANKS, BLANKS, BLANKS, BLANKS, BLANKS);
        x.feed(n[0], n[1], n[2], n[3], n[4]);
        x.code();
        C.due("byte 20 + " + at, x.fault(1), 20 + at);
    }

    // "n; NONE, doing nothing, if it has not so many, or n is below 0"
    private static void endEdges() {
        for (int at = 0; at < 20; at++) {
            everyByteOfFeed(at);
        }
        DuelDelays x = new DuelDelays();
        C.due("end(0) of none", x.end(0), 0);
        C.due("end(1) of none", x.end(1), -1);
        x.feed(0x6d616e20, 0x61206469, 0x65732039, 0x3b6d616e, 0x20622064); // man a dies 9;man b d
        C.due("end(20) of 20", x.end(20), 20);
        C.due("end(13)", x.end(13), 13);
        C.due("end(14) of 13", x.end(14), -1);
        C.due("bytes", x.about(13), 13);
        C.due("its first 13 bytes", x.code(), 1);
        for (int n : new int[] {-1, Integer.MIN_VALUE, 41, Integer.MAX_VALUE}) {
            T.same("end(" + n + ")", Ways::rich, y -> y.end(n), -1);
        }
        T.same("end(20) of 20", Ways::rich, y -> y.end(20), 20);
    }

    private static void feedRefused() {
        for (int bytes : new int[] {1581, 1600}) {
            T.same("feed at " + bytes, x -> {
                Ways.rich(x);
                x.end(0);
                Checks.feed(x, times(" ", bytes));
            }, x -> x.feed(1, 2, 3, 4, 5), -1);
        }
    }

    // "A CODE is a text of at most 1,600 bytes": all of them are read
    private static void codeOf1600() {
        String text = "man a dies 9;" + times(" ", 1574) + "man b dies 9;";
        C.due("its length", text.length(), 1600);
        DuelDelays x = new DuelDelays();
        C.due("both ends are read", Checks.code(x, text), 2);
        fault(text.substring(0, 1599) + " ", 2, 1600);
        fault(text.substring(0, 1599) + "?", 1, 1599);
        fault(times(" ", 1599) + ";", 2, 1599);
        good(times("\n", 1600));
    }

    // ---- TOKENS

    // "words (a .. z ..), N (.. digits), signs ; ( ) < > = + - * / %; blanks (32, 10)"; "1 no TOKEN"
    private static void everyByte() {
        for (int b = 0; b < 256; b++) {
            boolean blank = b == 32 || b == 10;
            boolean letter = b >= 'a' && b <= 'z';
            boolean digit = b >= '0' && b <= '9';
            boolean sign = ";()<>=+-*/%".indexOf(b) >= 0;
            boolean token = letter || digit || sign;
            fault(new byte[] {(byte) b}, "byte " + b, blank ? 0 : token ? 2 : 1, blank ? -1 : 0);
            byte[] behind = "kind k 1 ;".getBytes(StandardCharsets.ISO_8859_1);
            behind[8] = (byte) b;
            boolean longer = digit || blank;
            // a sign closes the line, or wants more, or can't stand there; a letter is directly behind the N
            int code = longer ? 0 : letter ? 1 : token ? 2 : 1;
            int place = longer ? -1 : letter ? 7 : !token || b == '(' || b == ')' ? 8 : 9;
            fault(behind, "byte " + b + " in kind k 1?;", code, place);
        }
    }

    // "words (a .. z, 8 at most)"
    private static void words() {
        for (int length = 1; length <= 12; length++) {
            String name = "abcdefghijkl".substring(0, length);
            boolean word = length <= 8;
            fault("man " + name + " dies 3;", word ? 0 : 1, word ? -1 : 4);
            fault("kind " + name + " 3;", word ? 0 : 1, word ? -1 : 5);
        }
        good("man zzzzzzzz dies 3;man zzzzzzz dies 3;man aaaaaaaa dies 3;man a dies 3;man aa dies 3;");
        // names of eight that differ in the last letter, or in the first one, are two
        good("man abcdefgh dies 3;man abcdefgi dies 3;man bbcdefgh dies 3 son abcdefgi;");
        fault("man abcdefgh dies 3;man abcdefgh dies 3;", 3, 24);
    }

    // "N (1 to 4 digits)"
    private static void numbers() {
        for (int length = 1; length <= 11; length++) {
            String n = times("9", length);
            boolean number = length <= 4;
            fault("kind k " + n + ";", number ? 0 : 1, number ? -1 : 7);
            String zeros = times("0", length - 1) + "3";
            fault("man a dies " + zeros + ";", number ? 0 : 1, number ? -1 : 11);
        }
        C.due("0003 is 3", Checks.land("man a dies 0003;").man(0, 3), 3);
        C.due("0999 is 999", Checks.land("man a dies 0999;").man(0, 3), 999);
    }

    // "blanks (32, 10) part them or not"
    private static void blanks() {
        good(WHOLE);
        good(WHOLE.replace(" ", "\n"));
        good("\n \n" + WHOLE.replace(" ", " \n  ") + " \n");
        good("man a dies9 coin3;man b dies8 son a;");
        good("kind k(1+2)*3-4/5%6<7 and(8)or not(day)+uses*spent;");
        good("kind k3;reason r of k from0 to9 rent1 all;honour5;draw6;");
        good("kind k not(1)and not(2)or not(3);");
        fault("kind k\t3;", 1, 6);
        fault("kind k 3;\r\n", 1, 9);
    }

    // "each is as long as can be"
    private static void asLongAsCanBe() {
        fault("mana dies 3;", 2, 0);
        fault("man adies 3;", 2, 10);
        fault("kind k not1;kind q notday;", 2, 19);
        fault("kind k day2;", 2, 10);
        fault("kind k 1 2;", 2, 9);
        DuelDelays x = Checks.land("man a dies 9;man b dies 9;kind k 12;kind q 1234;reason r of k;duel a with b on 3;");
        C.due("12 is one number", x.worth(0, 0, 0), 12);
    }

    // "no letter directly behind an N"
    private static void letterBehindNumber() {
        fault("man a dies 3coin 4;", 1, 11);
        fault("man a dies 999coin 4;", 1, 11);
        fault("man a dies 9999z;", 1, 11);
        fault("kind k 1and 1;", 1, 7);
        fault("kind k 1 and 1or 1;", 1, 13);
        good("man a dies 3\ncoin 4;");
        good("kind k 1 and(1)or 1;");
        // a letter that is none of a .. z is no TOKEN by itself
        fault("man a dies 3Coin 4;", 1, 12);
    }

    // "Words that stand for themselves here are no NAMES."
    private static void wordsAreNoNames() {
        C.due("how many words", WORDS.length, 24);
        for (String word : WORDS) {
            fault("man " + word + " dies 3;", 2, 4);
            fault("kind " + word + " 3;", 2, 5);
            fault("kind k 1;reason " + word + " of k;", 2, 16);
            fault("kind k 1;reason r of " + word + ";", 2, 21);
            fault("man a dies 3;man b dies 4 son " + word + ";", 2, 30);
            fault("duel " + word + " with a on 3;", 2, 5);
            String cut = word.substring(0, word.length() - 1);
            if (!cut.isEmpty()) {
                good("man " + cut + " dies 3;");
            }
            good("man " + word + "x dies 3;");
        }
        for (String name : "line code e both one sum term unit n name none open side days reasons men kinds duels".split(" ")) {
            good("man " + name + " dies 3;kind " + name + " 1;reason " + name + " of " + name + " by " + name + ";");
        }
    }

    private static void range(String ahead, int least, int most) {
        for (int n : new int[] {least - 1, least, most, most + 1}) {
            if (n >= 0) {
                boolean can = n >= least && n <= most;
                fault(ahead + n + ";", can ? 0 : 4, can ? -1 : ahead.length());
            }
        }
        fault(ahead + "9999;", 4, ahead.length());
    }

    // "dies: a DAY 1 .. 999; coin 0 .. 999"; "from, to: DAYS 0 .. 999, the second not below the first"; "rent 0 .. 99";
    // "on a DAY 1 .. 999"; "honour (1 .. 99; 9), draw (0 .. 999; 0)"
    private static void numbersOfLines() {
        range("man a dies ", 1, 999);
        range("man a dies 9 coin ", 0, 999);
        String reason = "kind k 1;reason r of k ";
        range(reason + "from ", 0, 999);
        range(reason + "to ", 0, 999);
        range(reason + "from 0 to ", 0, 999);
        range(reason + "from 5 to ", 5, 999);
        range(reason + "from 999 to ", 999, 999);
        range(reason + "rent ", 0, 99);
        range("man a dies 9;man b dies 9;duel a with b on ", 1, 999);
        range("honour ", 1, 99);
        range("draw ", 0, 999);
        good("kind k 0;kind q 9999;");
        DuelDelays x = Checks.land("man a dies 999 coin 999;man b dies 1 coin 0;kind k 1;reason r of k from 999 to 999 rent 99;"
            + "reason s of k from 0 to 0 rent 0;duel a with b on 999;honour 99;draw 999;");
        C.due("dies 999", x.man(0, 3), 999);
        C.due("coin 999", x.man(0, 1), 999);
        C.due("dies 1", x.man(1, 3), 1);
        C.due("from 999", x.reason(0, 2), 999);
        C.due("to 999", x.reason(0, 3), 999);
        C.due("rent 99", x.reason(0, 4), 99);
        C.due("to 0", x.reason(1, 3), 0);
        C.due("on 999", x.duel(0, 2), 999);
        C.due("draw 999", x.about(5), 999);
        DuelDelays y = Checks.land("man a dies 9;man b dies 9;honour 99;");
        y.insult(0, 1);
        C.due("honour 99", y.duel(0, 2), 99);
        DuelDelays z = Checks.land("man a dies 9;man b dies 9;honour 1;");
        z.insult(0, 1);
        C.due("honour 1", z.duel(0, 2), 1);
    }

    // "0 if not told"; "0 and 999 if not told"; "rent 0 .. 99, 0"; "all, each: one of both, or none"
    private static void untold() {
        DuelDelays x = Checks.land("man a dies 9;man b dies 9;kind k 1;reason r of k;reason s of k from 7;reason t of k to 7;"
            + "reason u of k each;reason v of k all;reason w of k from 999;");
        C.due("coin", x.man(0, 1), 0);
        C.due("son", x.man(0, 2), -1);
        int[] r = {0, -1, 0, 999, 0, 0, 0, 0};
        for (int what = 0; what < r.length; what++) {
            C.due("reason(0, " + what + ")", x.reason(0, what), r[what]);
        }
        C.due("to, with a from", x.reason(1, 3), 999);
        C.due("from, with a to", x.reason(2, 2), 0);
        C.due("each", x.reason(3, 5), 1);
        C.due("all", x.reason(4, 5), 2);
        C.due("to, with from 999", x.reason(5, 3), 999);
        C.due("draw", x.about(5), 0);
        x.insult(0, 1);
        C.due("honour", x.duel(0, 2), 9);
    }

    private static String men(int n) {
        StringBuilder s = new StringBuilder();
        for (int i = 0; i < n; i++) {
            s.append("man ").append((char) ('a' + i)).append(" dies 9;");
        }
        return s.toString();
    }

    private static String kinds(int n) {
        StringBuilder s = new StringBuilder();
        for (int i = 0; i < n; i++) {
            s.append("kind ").append((char) ('a' + i)).append(" 1;");
        }
        return s.toString();
    }

    private static String reasons(int n) {
        StringBuilder s = new StringBuilder("kind a 1;");
        for (int i = 0; i < n; i++) {
            s.append("reason ").append((char) ('a' + i)).append(" of a;");
        }
        return s.toString();
    }

    private static String duels(int n) {
        String[] pairs = {"a with b", "c with d", "e with f", "b with c", "d with e", "f with a", "a with c"};
        StringBuilder s = new StringBuilder(men(6));
        for (int i = 0; i < n; i++) {
            s.append("duel ").append(pairs[i]).append(" on 3;");
        }
        return s.toString();
    }

    // "At most 6 MEN .., 4 KINDS, 8 REASONS .., 6 duels"; "one of a sort too many ..: at the line's first word"
    private static void howMany() {
        good(men(6));
        good(kinds(4));
        good(reasons(8));
        good(duels(6));
        C.due("6 MEN", Checks.land(men(6)).about(0), 6);
        C.due("4 KINDS", Checks.land(kinds(4)).about(1), 4);
        C.due("8 REASONS", Checks.land(reasons(8)).about(2), 8);
        C.due("6 duels", Checks.land(duels(6)).about(3), 6);
        fault(men(7), 2, men(6).length());
        fault(kinds(5), 2, kinds(4).length());
        fault(reasons(9), 2, reasons(8).length());
        fault(duels(7), 2, duels(6).length());
        // whatever is wrong behind that word
        fault(men(6) + "  man a dies 0;", 2, men(6).length() + 2);
        fault(men(6) + "man", 2, men(6).length());
        fault(kinds(4) + "kind a ?", 2, kinds(4).length());
        fault(reasons(8) + "reason x of x;", 2, reasons(8).length());
        fault(duels(6) + "duel a with b on 3;", 2, duels(6).length());
        // numbered as told, each sort by itself
        DuelDelays x = Checks.land("kind p 1;man a dies 1;reason r of p;kind q 2;man b dies 2;duel b with a on 1;"
            + "reason s of q by a;man c dies 3 son b;");
        C.due("MAN 2", x.man(2, 3), 3);
        C.due("MAN 2's father", x.man(2, 2), 1);
        C.due("REASON 1's KIND", x.reason(1, 0), 1);
        C.due("REASON 1's own", x.reason(1, 1), 0);
        C.due("DUEL 0", x.duel(0, 0), 1);
    }

    // "honour .., draw .. once each"; ".. or a second time: at the line's first word"
    private static void onceEach() {
        good("honour 5;draw 5;");
        good("draw 5;honour 5;");
        fault("honour 5;honour 5;", 2, 9);
        fault("honour 5;draw 5;honour", 2, 16);
        fault("draw 5;draw 5;", 2, 7);
        fault("draw 5;honour 5;draw ?;", 2, 16);
        fault("honour 5;draw 5;\n\nhonour 0;", 2, 18);
    }

    // "6 duels (of two unlike MEN told ahead, each two once in whichever order)"; "3 .., a duel of one with himself,
    // one told already (at the second NAME)"
    private static void duelsOfTwo() {
        String m = men(3);
        good(m + "duel a with b on 3;duel a with c on 3;duel b with c on 3;");
        fault(m + "duel a with a on 3;", 3, m.length() + 12);
        fault(m + "duel a with b on 3;duel a with b on 3;", 3, m.length() + 19 + 12);
        fault(m + "duel a with b on 3;duel b with a on 3;", 3, m.length() + 19 + 12);
        fault(m + "duel c with a on 3;duel b with c on 3;duel c with b on 4;", 3, m.length() + 38 + 12);
        fault(m + "duel a with a", 3, m.length() + 12);
        fault(m + "duel a with a ?", 3, m.length() + 12);
        fault(m + "duel x with x on 3;", 5, m.length() + 5);
        fault(m + "duel a with x on 3;", 5, m.length() + 12);
    }

    // "son of a MAN told ahead"; "of a KIND, by a MAN told ahead"; "3 a NAME told already (of its sort)"; "5 a NAME that
    // nothing of the sort has"
    private static void toldAhead() {
        fault("man a dies 9 son a;", 5, 17);
        fault("man b dies 9 son a;man a dies 9;", 5, 17);
        good("man a dies 9;man b dies 9 son a;man c dies 9 son a;man d dies 9 son c;");
        fault("kind k 1;man a dies 9 son k;", 5, 26);
        fault("reason r of k;kind k 1;", 5, 12);
        fault("man k dies 9;reason r of k;", 5, 25);
        fault("kind k 1;reason r of r;", 5, 21);
        fault("kind k 1;reason r of k by a;man a dies 9;", 5, 26);
        fault("kind k 1;reason r of k by k;", 5, 26);
        fault("duel a with b on 3;man a dies 9;man b dies 9;", 5, 5);
        fault("man a dies 9;duel a with b on 3;man b dies 9;", 5, 25);
        fault("man a dies 9;kind a 1;man a dies 9;", 3, 26);
        fault("kind a 1;man a dies 9;kind a 1;", 3, 27);
        fault("kind a 1;reason a of a;reason a of a;", 3, 30);
        // a line that was refused tells nothing: the text anew does
        DuelDelays x = new DuelDelays();
        C.due("refused", Checks.code(x, "man a dies 9;man b dies 0;"), -1);
        C.due("told anew", Checks.code(x, "man a dies 9;man b dies 1;"), 2);
    }

    // "man NAME dies N [coin N] [son NAME] ;", "reason NAME of NAME [by NAME] [from N] [to N] [rent N] [all or each] ;":
    // in this order, each once at most
    private static void optionsInOrder() {
        String man = "man a dies 9;man b dies 9 ";
        int at = man.length();
        good(man + "coin 1 son a;");
        fault(man + "son a coin 1;", 2, at + 6);
        fault(man + "coin 1 coin 1;", 2, at + 7);
        fault(man + "son a son a;", 2, at + 6);
        fault("man a coin 1;", 2, 6);
        String[] options = {"by a", "from 1", "to 2", "rent 3", "all", "each"};
        String reason = "man a dies 9;kind k 1;reason r of k ";
        for (int i = 0; i < options.length; i++) {
            good(reason + options[i] + ";");
            for (int j = 0; j < options.length; j++) {
                boolean ordered = i < j && i < 4;
                int place = reason.length() + options[i].length() + 1;
                fault(reason + options[i] + " " + options[j] + ";", ordered ? 0 : 2, ordered ? -1 : place);
            }
        }
        fault("kind k 1;reason r by a of k;", 2, 18);
    }

    // ---- units

    private static String sum(int units) {
        return "1" + times("+1", units - 1);
    }

    // "30 in one e"; "a unit too many ..: at its first TOKEN"
    private static void thirtyUnits() {
        good("kind k " + sum(30) + ";");
        fault("kind k " + sum(31) + ";", 2, 7 + 60);
        fault("kind k " + sum(30) + "+(1);", 2, 7 + 60);
        fault("kind k " + sum(30) + "+day;", 2, 7 + 60);
        fault("kind k " + sum(30) + "+ uses;", 2, 7 + 61);
        fault("kind k " + sum(30) + "*spent;", 2, 7 + 60);
        fault("kind k " + sum(30) + " or not 1;", 2, 7 + 59 + 8);
        // ( e ) is a unit, and those within it are
        good("kind k " + sum(28) + "+(1);");
        fault("kind k " + sum(29) + "+(1);", 2, 7 + 59);
        good("kind k (" + sum(29) + ");");
        fault("kind k (" + sum(30) + ");", 2, 8 + 58);
        // a unit too many, and what can't stand there: both are 2, at the same TOKEN
        fault("kind k " + sum(30) + "+;", 2, 7 + 60);
        // each e has its own
        good("kind k " + sum(30) + ";kind q " + sum(30) + ";");
        fault("kind k " + sum(29) + ";kind q " + sum(31) + ";", 2, 7 + 57 + 8 + 60);
    }

    // "60 units in all"
    private static void sixtyUnits() {
        String sixty = "kind a " + sum(20) + ";kind b " + sum(20) + ";kind c " + sum(19) + ";";
        good(sixty + "kind d 1;");
        C.due("60 units", Checks.land(sixty + "kind d 1;").about(14), 60);
        C.due("59 units", Checks.land(sixty).about(14), 59);
        fault(sixty + "kind d 1+1;", 2, sixty.length() + 9);
        fault(sixty + "kind d (1);", 2, sixty.length() + 8);
        fault(sixty + "kind d 1*not;", 2, sixty.length() + 9);
        String full = sixty.replace("kind a 1", "kind a 1+1");
        fault(full + "kind d 1;", 2, full.length() + 7);
        fault(full + "kind d not not day;", 2, full.length() + 15);
        // those of a text before do not count
        DuelDelays x = Checks.land(sixty);
        C.due("anew", Checks.code(x, sixty), 0);
        C.due("units", x.about(14), 59);
        C.due("a fault", Checks.code(x, sixty + "kind d 1+1;"), -1);
        C.due("units stay", x.about(14), 59);
    }

    // "(a unit ( e ), or a one behind not, within 6 others at most)"; "what is within 7 others: at its first TOKEN, or the not"
    private static void withinOthers() {
        for (int depth = 1; depth <= 10; depth++) {
            boolean can = depth <= 7;
            fault("kind k " + times("(", depth) + "1" + times(")", depth) + ";", can ? 0 : 2, can ? -1 : 7 + 7);
            fault("kind k " + times("not ", depth) + "1;", can ? 0 : 2, can ? -1 : 7 + 28);
            // by turns: not ( not ( ..
            StringBuilder open = new StringBuilder("kind k ");
            int eighth = 0;
            for (int i = 0; i < depth; i++) {
                eighth = i == 7 ? open.length() : eighth;
                open.append(i % 2 == 0 ? "not " : "(");
            }
            fault(open + "1" + times(")", depth / 2) + ";", can ? 0 : 2, can ? -1 : eighth);
        }
        // plain units may stand within seven
        good("kind k " + times("(", 7) + "1+day*uses<spent" + times(")", 7) + ";");
        // what is closed is no other more
        good("kind k " + times("(", 7) + "1" + times(")", 7) + "+" + times("(", 7) + "1" + times(")", 7) + ";");
        good("kind k " + times("not ", 7) + "1 and " + times("not ", 7) + "1 or " + times("not ", 7) + "1;");
        good("kind k ((((((1)+1)+1)+1)+1)+1);");
        good("kind k not(not(not(not 1 and (1))));");
        fault("kind k not(not(not(not(1))));", 2, 7 + 15);
        fault("kind k not(not(not(1 and (not 1))));", 2, 7 + 19);
    }

    // ---- FAULTS

    // "the first by its place"
    private static void firstFault() {
        fault("man a dies 0;man a dies ?;", 4, 11);
        fault("man a dies 9;man a dies 0;", 3, 17);
        fault("man a dies 9 son x coin 1;?", 5, 17);
        fault("man a dies 9 coin 1000 son x;", 4, 18);
        fault("man a dies 9;? man a dies 9;", 1, 13);
        fault("man a 9 dies;?", 2, 6);
        fault("kind k 1+;kind k 1;", 2, 9);
        fault("kind k 1;reason r of x from 1000;", 5, 21);
        fault("kind k 1;reason r of k from 1000 to 0;", 4, 28);
        fault("kind k 1;reason r of k from 9 to 8 rent 100;", 4, 33);
    }

    // "at one place the least": what is no TOKEN is 1, whatever was due there; a word that is no NAME is 2
    private static void leastAtOnePlace() {
        fault("man a dies 99999;", 1, 11);
        fault("man a dies x;", 2, 11);
        fault("man 9 dies 9;", 2, 4);
        fault("man a dies 9 son 7;", 2, 17);
        fault("man a dies 9;man a9 dies 9;", 3, 17);
        fault("man a dies 9;man abcdefghi dies 9;", 1, 17);
        fault("man a dies 1000x;", 1, 11);
        fault("man a dies 9;duel abcdefghi with a on 3;", 1, 18);
        fault(times("(", 40), 2, 0);
    }

    // "2 one that can't stand there"
    private static void cantStandThere() {
        for (String sign : "or and < > = + - * / %".split(" ")) {
            fault("kind k 1 " + sign + " ;", 2, 10 + sign.length());
            fault("kind k ( 1 " + sign + " ) ;", 2, 12 + sign.length());
            fault("kind k " + sign + " 1 ;", 2, 7);
            fault("kind k 1 " + sign + " " + sign + " 1 ;", 2, 10 + sign.length());
            good("kind k 1 " + sign + " 1 ;");
        }
        for (String sign : "< > =".split(" ")) {
            fault("kind k 1 " + sign + " 2 < 3;", 2, 13);
            good("kind k (1 " + sign + " 2) < 3;");
            fault("kind k 1 " + sign + " not 2;", 2, 11);
        }
        for (String sign : "+ - * / %".split(" ")) {
            fault("kind k 1 " + sign + " not 2;", 2, 11);
        }
        fault("kind k not ;", 2, 11);
        fault("kind k ;", 2, 7);
        fault("kind k ( ) ;", 2, 9);
        fault("kind k ( 1 ;", 2, 11);
        fault("kind k 1 ) ;", 2, 9);
        fault("kind k ( 1 ) ) ;", 2, 13);
        fault("kind k q ;", 2, 7);
        everyTokenEverywhere();
    }

    /** Each TOKEN put in, or in the place of another one, at each place of a whole text; the Model says what is due. */
    private static void everyTokenEverywhere() {
        String[] some = (String.join(" ", WORDS) + " ; ( ) < > = + - * / % a b k r s zz 0 1 7 99 100 999 1000 00000 abcdefghi ? 7x")
            .split(" ");
        String[] tokens = WHOLE.split(" ");
        int at = 0;
        for (String token : tokens) {
            String ahead = WHOLE.substring(0, at);
            for (String other : some) {
                asTheModel(ahead + other + " " + WHOLE.substring(at));
                asTheModel(ahead + other + WHOLE.substring(at + token.length()));
            }
            at += token.length() + 1;
        }
    }

    private static void asTheModel(String text) {
        Model model = new Model();
        model.tape = text;
        model.code();
        fault(text, model.fault(0), model.fault(1));
    }

    // "the end: the text's length": 2, at every TOKEN behind which the text may not end
    private static void theEnd() {
        int at = 0;
        for (String token : WHOLE.split(" ")) {
            at += token.length();
            boolean closed = token.equals(";");
            fault(WHOLE.substring(0, at), closed ? 0 : 2, closed ? -1 : at);
            String blank = WHOLE.substring(0, at) + " \n ";
            fault(blank, closed ? 0 : 2, closed ? -1 : at + 3);
            at++;
        }
        C.due("to the end of the whole", at, WHOLE.length() + 1);
    }

    // "Of the latest code() what 0: its FAULT (0), 1: its place (NONE). NONE for another what."
    private static void faultOfLatest() {
        DuelDelays x = new DuelDelays();
        C.due("of none", x.fault(0), 0);
        C.due("of none", x.fault(1), -1);
        Checks.code(x, "man a dies 0;");
        C.due("a FAULT", x.fault(0), 4);
        C.due("its place", x.fault(1), 11);
        for (int what : new int[] {-1, 2, Integer.MIN_VALUE, Integer.MAX_VALUE}) {
            C.due("fault(" + what + ")", x.fault(what), -1);
        }
        x.days(1);
        x.feed(0, 0, 0, 0, 0);
        C.due("stays till the next code()", x.fault(0), 4);
        Checks.code(x, "?");
        C.due("another", x.fault(0), 1);
        C.due("at its first byte", x.fault(1), 0);
        Checks.code(x, "man a dies 1;");
        C.due("none", x.fault(0), 0);
        C.due("none", x.fault(1), -1);
    }

    // "The TAPE (empty then) is the CODE (DAY 0, all as told, the LOG is empty, no ACTS are kept, no SIGHTS are, nothing
    // lies there, BOXES are empty then; the TIME stays): how many MEN"
    private static void codeAnew() {
        DuelDelays x = new DuelDelays();
        Ways.rich(x);
        for (int box = 0; box < 3; box++) {
            x.image(box);
        }
        int time = x.about(12);
        C.due("a rich one has all of it", x.about(4) * x.about(8) * x.about(9) * x.about(10) * x.about(11) * x.about(15) > 0,
            true);
        C.due("code", Checks.code(x, Ways.LAND), 4);
        int[] want = {4, 2, 6, 2, 0, 7, 15, 2, 0, 0, 0, 0, time, 0, 3, 0};
        for (int what = 0; what < want.length; what++) {
            C.due("anew: about(" + what + ")", x.about(what), want[what]);
        }
        for (int box = 0; box < 3; box++) {
            C.due("anew: back(" + box + ")", x.back(box), -1);
        }
        C.due("anew: undo", x.undo(), false);
        C.due("anew: redo", x.redo(), false);
        C.due("anew: coin", x.man(0, 1), 5);
        C.due("anew: RENTED", x.man(0, 4), 0);
        C.due("anew: alive", x.man(3, 0), 1);
        C.due("anew: MORNING", x.duel(0, 2), 8);
        C.due("anew: HONOUR", x.duel(0, 3), -1);
        C.due("anew: used", x.duel(0, 5), 0);
        C.due("anew: STRUCK", x.reason(2, 6), 0);
        C.due("anew: how often", x.reason(0, 7), 0);
        C.due("anew: lies", x.lies(0), -1);
        C.due("anew: log", x.log(0, 0), -1);
        C.due("anew: untell", x.untell(0), false);
        C.due("an empty TAPE is a CODE", x.code(), 0);
        for (int what = 0; what < 16; what++) {
            C.due("empty: about(" + what + ")", x.about(what), what == 12 ? time : 0);
        }
    }

    // what was there ahead of the first ACT is gone, too
    private static void codeBehindBack() {
        DuelDelays x = new DuelDelays();
        Ways.rich(x);
        x.redo();
        x.put(2, 0, 1);
        x.image(2);
        x.back(2);
        C.due("code", Checks.code(x, Ways.LAND), 4);
        int[] want = {4, 2, 6, 2, 0, 7, 15, 2, 0, 0, 0, 0, 7, 0, 3, 0};
        for (int what = 0; what < want.length; what++) {
            C.due("behind back: about(" + what + ")", x.about(what), want[what]);
        }
        C.due("coin", x.man(0, 1), 5);
        C.due("RENTED", x.man(0, 4), 0);
        C.due("STRUCK", x.reason(2, 6), 0);
        C.due("used", x.reason(0, 7) + x.reason(1, 7), 0);
        C.due("HONOUR", x.duel(0, 3), -1);
        C.due("insult", x.insult(2, 0), 2);
        C.due("a new DUEL has nothing used", x.duel(2, 5), 0);
        C.due("a new DUEL is nobody's HONOUR", x.duel(2, 3), -1);
        C.due("each can be used", x.may(2, 0), 2);
    }

    // a text tells all: what texts before told does not count
    private static void codeAgainAndAgain() {
        DuelDelays x = new DuelDelays();
        String two = "man a dies 9;man b dies 9;";
        String land = two + "kind k " + sum(30) + ";kind q 7*(" + sum(20) + ")+uses-spent;reason r of k each;reason s of q each;"
            + "duel a with b on 3;honour 3;draw 5;";
        String turned = two + "kind q 7*(" + sum(20) + ")+uses-spent;kind k " + sum(30) + ";reason r of k each;reason s of q each;"
            + "duel a with b on 3;honour 4;draw 6;";
        for (int i = 0; i < 20; i++) {
            boolean even = i % 3 != 0;
            C.due("code " + i, Checks.code(x, even ? land : turned), 2);
            C.due("WORTH of r", x.worth(0, 0, 0), 30);
            C.due("WORTH of s", x.worth(0, 1, 0), 140);
            C.due("the KIND of r", x.reason(0, 0), even ? 0 : 1);
            C.due("draw", x.about(5), even ? 5 : 6);
            x.put(0, 0, 0);
            C.due("spent 1, uses 0", x.worth(0, 1, 0), 139);
            x.put(0, 0, 1);
            C.due("spent 2, uses 1", x.worth(0, 1, 0), 139);
        }
        for (int i = 0; i < 3; i++) {
            C.due("code", Checks.code(x, two), 2);
            C.due("draw is not told", x.about(5), 0);
            C.due("insult", x.insult(0, 1), 0);
            C.due("honour is not told", x.duel(0, 2), 9);
            C.due("units", x.about(14), 0);
        }
    }

    // "NONE: a FAULT (all stays)"
    private static void codeRefused() {
        String[] texts = {"?", "man", "man a dies 0;", "man a dies 9;man a dies 9;", "man a dies 9 son b;",
            "man q dies 1;kind x 1;reason y of x;duel q with q on 1;", "honour 3;draw 4;kind k 1+1+1;;"};
        for (String text : texts) {
            DuelDelays called = new DuelDelays();
            Ways.rich(called);
            called.end(0);
            Checks.feed(called, text);
            C.due("code of [" + text + "]", called.code(), -1);
            T.sameButFault("code of [" + text + "]", x -> {
                Ways.rich(x);
                x.end(0);
                Checks.feed(x, text);
            });
            C.due("the TAPE stays", called.about(13), text.length());
            C.due("the DAY stays", called.about(4), 3);
            C.due("honour stays", called.undo() ? called.insult(2, 0) : -9, 2);
            C.due("honour stays", called.duel(2, 2), 7);
            C.due("WORTH stays", called.worth(0, 1, 0), 3);
        }
    }
}
