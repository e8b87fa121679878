import java.util.Random;

/** Random lands and runs of calls, each answer held against the Model's. */
public final class ModelTest {
    private static final int RUNS = 700;
    private static final String[] NAMES = {"a", "b", "c", "d", "e", "f", "g", "h", "i", "abcdefgh"};

    private final Random random;
    private final Checks checks;
    private DuelDelays x;
    private Model y;
    private String trail = "";
    /** In a slow run MEN live long, REASONS are worth little, and few DAYS go by. */
    private final boolean slow;
    /** In a crowded run many DUELS are on few MORNINGS, and most REASONS are another one's. */
    private final boolean crowded;

    private ModelTest(long seed, Checks checks) {
        random = new Random(seed);
        int sort = random.nextInt(6);
        slow = sort < 3;
        crowded = sort == 2 || sort == 3;
        this.checks = checks;
    }

    public static void main(String[] args) {
        Checks checks = new Checks();
        int runs = args.length > 0 ? Integer.parseInt(args[0]) : RUNS;
        long base = args.length > 1 ? Long.parseLong(args[1]) : 0;
        for (int run = 0; run < runs && checks.wrong() < 5; run++) {
            new ModelTest(base + run, checks).run();
        }
        checks.finish("ModelTest");
    }

    private void run() {
        x = new DuelDelays();
        y = new Model();
        int calls = 0;
        while (calls < 420) {
            if (calls == 0 || random.nextInt(slow ? 60 : 100) == 0) {
                calls += newCode();
            } else {
                step();
                calls++;
            }
        }
    }

    private void due(String call, int got, int want) {
        trail += call + "=" + want + " ";
        if (got != want) {
            System.out.println(trail);
        }
        checks.due(call, got, want);
    }

    private void due(String call, boolean got, boolean want) {
        due(call, got ? 1 : 0, want ? 1 : 0);
    }

    // ---- texts

    private int newCode() {
        due("end(0)", x.end(0), y.end(0));
        String text = landText();
        boolean spoilt = random.nextInt(4) == 0;
        if (spoilt) {
            text = spoil(text);
        }
        if (text.length() > 1600) {
            text = text.substring(0, 1600);
        }
        trail += "\n[" + text + "]\n";
        Checks.feed(x, text);
        y.tape = text;
        due("about(13)", x.about(13), y.about(13));
        due("code()", x.code(), y.code());
        due("fault(0)", x.fault(0), y.fault(0));
        due("fault(1)", x.fault(1), y.fault(1));
        due("about(14)", x.about(14), y.about(14));
        return 6 + (text.length() + 19) / 20;
    }

    private String landText() {
        StringBuilder s = new StringBuilder();
        int men = crowded ? 4 + random.nextInt(3) : 2 + random.nextInt(5);
        int kinds = random.nextInt(4) + 1;
        int reasons = slow ? 8 - random.nextInt(3) : random.nextInt(9);
        int most = new int[] {30, 100, 400, 999}[random.nextInt(4)];
        for (int i = 0; i < men; i++) {
            s.append("man ").append(NAMES[i]).append(" dies ").append(slow ? 40 + random.nextInt(30) : 1 + random.nextInt(most));
            if (random.nextBoolean()) {
                s.append(" coin ").append(random.nextInt(20));
            }
            if (i > 0 && random.nextInt(2) == 0) {
                s.append(" son ").append(NAMES[random.nextInt(i)]);
            }
            s.append(';');
        }
        for (int i = 0; i < kinds; i++) {
            s.append("kind ").append(NAMES[i]).append(' ').append(slow ? slowFormula() : formula(random.nextInt(4))).append(";\n");
        }
        for (int i = 0; i < reasons; i++) {
            reasonLine(s, NAMES[9 - i], kinds, men);
        }
        for (int i = crowded ? 12 : random.nextInt(7); i > 0; i--) {
            int a = random.nextInt(men);
            int b = random.nextInt(men);
            String pair = NAMES[a] + " with " + NAMES[b];
            String turned = NAMES[b] + " with " + NAMES[a];
            boolean full = crowded && s.toString().split("duel").length > 6;
            boolean wrong = full || a == b || s.indexOf(pair) >= 0 || s.indexOf(turned) >= 0;
            if (!wrong || random.nextInt(100) == 0) {
                int morning = crowded ? 6 + random.nextInt(3) : 1 + random.nextInt(random.nextBoolean() ? 8 : most);
                s.append("duel ").append(pair).append(" on ").append(morning).append(';');
            }
        }
        if (random.nextBoolean()) {
            s.append("honour ").append(1 + random.nextInt(12)).append(';');
        }
        if (random.nextBoolean()) {
            s.append("draw ").append(random.nextInt(1000)).append(';');
        }
        return s.toString();
    }

    private void reasonLine(StringBuilder s, String name, int kinds, int men) {
        s.append("reason ").append(name).append(" of ").append(NAMES[random.nextInt(kinds)]);
        if (random.nextInt(4) < (crowded ? 3 : 2)) {
            s.append(" by ").append(NAMES[random.nextInt(men)]);
        }
        int from = random.nextInt(30);
        if (random.nextInt(5) == 0) {
            s.append(" from ").append(from);
        }
        if (random.nextInt(5) == 0) {
            s.append(" to ").append(from + random.nextInt(60));
        }
        if (random.nextInt(2) == 0) {
            s.append(" rent ").append(random.nextInt(9));
        }
        s.append(new String[] {"", "", " all", " each"}[random.nextInt(4)]).append(';');
    }

    private String slowFormula() {
        String[] some = {"3 + uses", "5 + day % 3", "9 - uses", "2 + spent", "8", "11 - spent", "6 + day % 2 * 5", "4"};
        return some[random.nextInt(some.length)];
    }

    private String formula(int depth) {
        if (depth == 0) {
            String[] plain = {"day", "uses", "spent", "7", "0", "1", "9999"};
            int pick = random.nextInt(10);
            return pick < plain.length ? plain[pick] : "" + random.nextInt(20);
        }
        String left = formula(random.nextInt(depth));
        String right = formula(random.nextInt(depth));
        String[] signs = {"+", "-", "*", "/", "%", "<", ">", "=", " and ", " or "};
        switch (random.nextInt(4)) {
            case 0: return "(" + left + ")";
            case 1: return "(not " + left + ")";
            default: return "(" + left + ")" + signs[random.nextInt(signs.length)] + "(" + right + ")";
        }
    }

    private String spoil(String text) {
        StringBuilder s = new StringBuilder(text);
        String[] bits = {"man", " kind", "not ", "(", ")", ";", "12345", "0", "1000", "100", "a", "x", "B", "\t", "day",
            " duel a with b on 3;", "honour 5;", "honour 6;", "draw 1;", "man a dies 4;", "kind z 1;", "abcdefghi", "7x",
            "son d", "(((((((", "not not not not ", "+1+1+1+1+1+1+1+1+1+1+1+1+1+1+1", "\u00e9", " ", "\n", "each", "to 3"};
        for (int n = 1 + random.nextInt(2); n > 0; n--) {
            int at = random.nextInt(s.length() + 1);
            if (random.nextInt(3) == 0) {
                s.delete(at, Math.min(s.length(), at + 1 + random.nextInt(6)));
            } else {
                s.insert(at, bits[random.nextInt(bits.length)]);
            }
        }
        return s.toString();
    }

    // ---- calls

    private int some(int count) {
        int pick = random.nextInt(40);
        return pick == 0 ? -1 : pick == 1 ? count : pick == 2 ? random.nextInt() : random.nextInt(Math.max(1, count));
    }

    private int someDuel() {
        return some(Math.max(1, y.about(3)));
    }

    private int someMan() {
        return some(Math.max(1, y.about(0)));
    }

    private int someReason() {
        return some(Math.max(1, y.about(2)));
    }

    private void step() {
        int pick = random.nextInt(100);
        if (crowded && pick % 4 == 0) {
            foresee(random.nextBoolean() ? 4 : 6);
        } else if (pick < 40) {
            act(pick);
        } else if (pick < 65) {
            look(pick);
        } else if (pick < 82) {
            foresee(pick);
        } else {
            record(pick);
        }
    }

    private void act(int pick) {
        int d = someDuel();
        int m = someMan();
        int o = someMan();
        int r = someReason();
        int side = some(2);
        if (pick < 16) {
            due("put(" + d + ", " + side + ", " + r + ")", x.put(d, side, r), y.put(d, side, r));
        } else if (pick < 20) {
            due("rent(" + m + ", " + r + ")", x.rent(m, r), y.rent(m, r));
        } else if (pick < 21) {
            due("strike(" + r + ")", x.strike(r), y.strike(r));
        } else if (pick < 25) {
            due("insult(" + m + ", " + o + ")", x.insult(m, o), y.insult(m, o));
        } else if (pick < 29) {
            int n = slow || crowded ? random.nextInt(2) : random.nextInt(20) == 0 ? some(402) : random.nextInt(6);
            due("days(" + n + ")", x.days(n), y.days(n));
        } else if (pick < 34) {
            due("undo()", x.undo(), y.undo());
        } else if (pick < 37) {
            due("redo()", x.redo(), y.redo());
        } else {
            int box = some(3);
            if (random.nextBoolean()) {
                due("image(" + box + ")", x.image(box), y.image(box));
            } else {
                due("back(" + box + ")", x.back(box), y.back(box));
            }
        }
    }

    private void look(int pick) {
        int d = someDuel();
        int m = someMan();
        int o = someMan();
        int r = someReason();
        int side = some(2);
        switch (pick % 10) {
            case 0: case 1: int w = some(5); due("man(" + m + ", " + w + ")", x.man(m, w), y.man(m, w)); break;
            case 2: w = some(6); due("duel(" + d + ", " + w + ")", x.duel(d, w), y.duel(d, w)); break;
            case 3: w = some(8); due("reason(" + r + ", " + w + ")", x.reason(r, w), y.reason(r, w)); break;
            case 4: w = some(10000);
                due("worth(" + d + ", " + r + ", " + w + ")", x.worth(d, r, w), y.worth(d, r, w)); break;
            case 5: due("may(" + d + ", " + side + ")", x.may(d, side), y.may(d, side)); break;
            case 6: w = some(2); due("next(" + w + ")", x.next(w), y.next(w)); break;
            case 7: due("heir(" + m + ")", x.heir(m), y.heir(m)); break;
            case 8: due("his(" + m + ")", x.his(m), y.his(m)); break;
            default: due("comes(" + m + ", " + o + ")", x.comes(m, o), y.comes(m, o)); break;
        }
    }

    private void foresee(int pick) {
        int d = someDuel();
        int m = someMan();
        int side = some(2);
        switch (pick % 8) {
            case 0: due("life(" + d + ")", x.life(d), y.life(d)); allLies(); break;
            case 1: int n = some(17); due("late(" + d + ", " + n + ")", x.late(d, n), y.late(d, n)); break;
            case 2: due("last(" + d + ", " + side + ")", x.last(d, side), y.last(d, side)); break;
            case 3: due("shun(" + m + ")", x.shun(m), y.shun(m)); break;
            case 4: due("hire(" + d + ", " + side + ")", x.hire(d, side), y.hire(d, side)); allLies(); break;
            case 5: due("clash(" + m + ")", x.clash(m), y.clash(m)); break;
            default:
                // of all MEN the one whose MORNINGS clash, if there is one
                for (int i = 0; i < 6; i++) {
                    m = y.clash(i) > 0 ? i : m;
                }
                due("part(" + m + ")", x.part(m), y.part(m));
                allLies();
                break;
        }
    }

    private void allLies() {
        for (int i = 0; i <= y.about(15); i++) {
            due("lies(" + i + ")", x.lies(i), y.lies(i));
        }
    }

    private void record(int pick) {
        int r = someReason();
        int d = someDuel();
        switch (pick) {
            case 82: int i = some(20); due("lies(" + i + ")", x.lies(i), y.lies(i)); break;
            case 83: case 84: i = some(60);
                int w = some(5); due("log(" + i + ", " + w + ")", x.log(i, w), y.log(i, w)); break;
            case 85: case 86: due("began(" + d + ")", x.began(d), y.began(d)); break;
            case 87: case 88: int day = random.nextBoolean() ? random.nextInt(12) : some(9001);
                due("sight(" + r + ", " + day + ")", x.sight(r, day), y.sight(r, day)); break;
            case 89: i = some(30); due("untell(" + i + ")", x.untell(i), y.untell(i)); break;
            case 90: i = random.nextBoolean() ? 1 : some(1001); due("later(" + i + ")", x.later(i), y.later(i)); break;
            case 91: case 92: i = random.nextBoolean() ? y.about(12) : some(1001);
                due("falses(" + i + ")", x.falses(i), y.falses(i)); allLies(); break;
            default: w = some(16); due("about(" + w + ")", x.about(w), y.about(w)); break;
        }
    }
}
