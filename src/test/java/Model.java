import java.util.ArrayList;
import java.util.Arrays;
import java.util.Collections;
import java.util.HashMap;
import java.util.HashSet;
import java.util.LinkedHashMap;
import java.util.List;
import java.util.Map;
import java.util.Set;

/** The document again, written plainly and slowly with the Java library, to hold the class against. */
final class Model {
    // ---- the text

    interface Formula {
        int of(int day, int uses, int spent);
    }

    static final class Man {
        String name;
        int dies;
        int coin;
        int father = -1;
    }

    static final class Reason {
        String name;
        int kind;
        int owner = -1;
        int from = 0;
        int to = 999;
        int rent = 0;
        int sort = 0;
    }

    static final class Duel {
        int[] men = new int[2];
        int morning;
        int honour = -1;
        boolean open = true;
        List<int[]> uses = new ArrayList<>(); // side, reason

        Duel copy() {
            Duel d = new Duel();
            d.men = men.clone();
            d.morning = morning;
            d.honour = honour;
            d.open = open;
            d.uses = new ArrayList<>(uses);
            return d;
        }
    }

    static final class Fault extends RuntimeException {
        private static final long serialVersionUID = 1;
        final int code;
        final int place;

        Fault(int code, int place) {
            this.code = code;
            this.place = place;
        }
    }

    static final class Text {
        final List<Man> men = new ArrayList<>();
        final List<String> kinds = new ArrayList<>();
        final List<Formula> formulas = new ArrayList<>();
        final List<Reason> reasons = new ArrayList<>();
        final List<Duel> duels = new ArrayList<>();
        int honour = 9;
        int draw = 0;
        int units = 0;
    }

    static final class Parser {
        static final Set<String> WORDS = new HashSet<>(Arrays.asList(("man dies coin son kind reason of by from to rent"
            + " all each duel with on honour draw or and not day uses spent").split(" ")));
        final List<String> tokens = new ArrayList<>();
        final List<Integer> places = new ArrayList<>();
        final Text text = new Text();
        int at = 0;
        int unitsHere;

        Parser(String s) {
            int i = 0;
            while (i < s.length()) {
                char c = s.charAt(i);
                if (c == ' ' || c == '\n') {
                    i++;
                    continue;
                }
                int j = i;
                String token;
                if (c >= 'a' && c <= 'z') {
                    while (j < s.length() && s.charAt(j) >= 'a' && s.charAt(j) <= 'z') {
                        j++;
                    }
                    token = j - i > 8 ? "BAD" : s.substring(i, j);
                } else if (c >= '0' && c <= '9') {
                    while (j < s.length() && s.charAt(j) >= '0' && s.charAt(j) <= '9') {
                        j++;
                    }
                    boolean letter = j < s.length() && s.charAt(j) >= 'a' && s.charAt(j) <= 'z';
                    token = j - i > 4 || letter ? "BAD" : s.substring(i, j);
                } else {
                    j++;
                    token = ";()<>=+-*/%".indexOf(c) >= 0 ? s.substring(i, j) : "BAD";
                }
                tokens.add(token);
                places.add(i);
                if (token.equals("BAD")) {
                    break;
                }
                i = j;
            }
            tokens.add("END");
            places.add(s.length());
        }

        String look() {
            return tokens.get(at);
        }

        Fault fault(int code) {
            return new Fault(look().equals("BAD") ? 1 : code, places.get(at));
        }

        void word(String w) {
            if (!look().equals(w)) {
                throw fault(2);
            }
            at++;
        }

        boolean isName() {
            return look().matches("[a-z]+") && !WORDS.contains(look());
        }

        boolean isNumber() {
            return look().matches("[0-9]+");
        }

        int number(int low, int high) {
            if (!isNumber()) {
                throw fault(2);
            }
            int n = Integer.parseInt(look());
            if (n < low || n > high) {
                throw fault(4);
            }
            at++;
            return n;
        }

        String fresh(List<String> told) {
            if (!isName()) {
                throw fault(2);
            }
            if (told.contains(look())) {
                throw fault(3);
            }
            return tokens.get(at++);
        }

        int known(List<String> told) {
            if (!isName()) {
                throw fault(2);
            }
            int i = told.indexOf(look());
            if (i < 0) {
                throw fault(5);
            }
            at++;
            return i;
        }

        List<String> menNames() {
            List<String> names = new ArrayList<>();
            for (Man m : text.men) {
                names.add(m.name);
            }
            return names;
        }

        List<String> reasonNames() {
            List<String> names = new ArrayList<>();
            for (Reason r : text.reasons) {
                names.add(r.name);
            }
            return names;
        }

        Text parse() {
            boolean honour = false;
            boolean draw = false;
            while (!look().equals("END")) {
                String first = look();
                boolean over = first.equals("man") && text.men.size() == 6
                    || first.equals("kind") && text.kinds.size() == 4
                    || first.equals("reason") && text.reasons.size() == 8
                    || first.equals("duel") && text.duels.size() == 6
                    || first.equals("honour") && honour || first.equals("draw") && draw;
                if (over) {
                    throw fault(2);
                }
                switch (first) {
                    case "man": man(); break;
                    case "kind": kind(); break;
                    case "reason": reason(); break;
                    case "duel": duel(); break;
                    case "honour": at++; text.honour = number(1, 99); honour = true; break;
                    case "draw": at++; text.draw = number(0, 999); draw = true; break;
                    default: throw fault(2);
                }
                word(";");
            }
            return text;
        }

        boolean option(String w) {
            if (look().equals(w)) {
                at++;
                return true;
            }
            return false;
        }

        void man() {
            at++;
            Man m = new Man();
            m.name = fresh(menNames());
            word("dies");
            m.dies = number(1, 999);
            if (option("coin")) {
                m.coin = number(0, 999);
            }
            if (option("son")) {
                m.father = known(menNames());
            }
            text.men.add(m);
        }

        void kind() {
            at++;
            String name = fresh(text.kinds);
            unitsHere = 0;
            Formula f = any(0);
            text.kinds.add(name);
            text.formulas.add(f);
        }

        void reason() {
            at++;
            Reason r = new Reason();
            r.name = fresh(reasonNames());
            word("of");
            r.kind = known(text.kinds);
            if (option("by")) {
                r.owner = known(menNames());
            }
            if (option("from")) {
                r.from = number(0, 999);
            }
            if (option("to")) {
                r.to = number(r.from, 999);
            }
            if (option("rent")) {
                r.rent = number(0, 99);
            }
            if (option("all")) {
                r.sort = 2;
            } else if (option("each")) {
                r.sort = 1;
            }
            text.reasons.add(r);
        }

        void duel() {
            at++;
            Duel d = new Duel();
            d.men[0] = known(menNames());
            word("with");
            int place = at;
            d.men[1] = known(menNames());
            for (Duel o : text.duels) {
                if (o.men[0] == d.men[0] && o.men[1] == d.men[1] || o.men[0] == d.men[1] && o.men[1] == d.men[0]) {
                    throw new Fault(3, places.get(place));
                }
            }
            if (d.men[0] == d.men[1]) {
                throw new Fault(3, places.get(place));
            }
            word("on");
            d.morning = number(1, 999);
            text.duels.add(d);
        }

        Formula any(int within) {
            Formula f = both(within);
            while (option("or")) {
                Formula a = f;
                Formula b = both(within);
                f = (d, u, s) -> a.of(d, u, s) != 0 | b.of(d, u, s) != 0 ? 1 : 0;
            }
            return f;
        }

        Formula both(int within) {
            Formula f = one(within);
            while (option("and")) {
                Formula a = f;
                Formula b = one(within);
                f = (d, u, s) -> a.of(d, u, s) != 0 & b.of(d, u, s) != 0 ? 1 : 0;
            }
            return f;
        }

        Formula one(int within) {
            if (look().equals("not")) {
                if (within == 7) {
                    throw fault(2);
                }
                at++;
                Formula a = one(within + 1);
                return (d, u, s) -> a.of(d, u, s) == 0 ? 1 : 0;
            }
            Formula a = sum(within);
            String sign = look();
            if (!sign.equals("<") && !sign.equals(">") && !sign.equals("=")) {
                return a;
            }
            at++;
            Formula b = sum(within);
            return (d, u, s) -> {
                int order = Integer.compare(a.of(d, u, s), b.of(d, u, s));
                return sign.equals("<") && order < 0 || sign.equals(">") && order > 0
                    || sign.equals("=") && order == 0 ? 1 : 0;
            };
        }

        Formula sum(int within) {
            Formula f = term(within);
            while (look().equals("+") || look().equals("-")) {
                boolean plus = tokens.get(at++).equals("+");
                Formula a = f;
                Formula b = term(within);
                f = (d, u, s) -> plus ? a.of(d, u, s) + b.of(d, u, s) : a.of(d, u, s) - b.of(d, u, s);
            }
            return f;
        }

        Formula term(int within) {
            Formula f = unit(within);
            while (look().equals("*") || look().equals("/") || look().equals("%")) {
                String sign = tokens.get(at++);
                Formula a = f;
                Formula b = unit(within);
                f = (d, u, s) -> {
                    int x = a.of(d, u, s);
                    int y = b.of(d, u, s);
                    return sign.equals("*") ? x * y : y == 0 ? 0 : sign.equals("/") ? x / y : x % y;
                };
            }
            return f;
        }

        Formula unit(int within) {
            boolean opens = look().equals("(");
            boolean plain = isNumber() || look().equals("day") || look().equals("uses") || look().equals("spent");
            if (!opens && !plain || unitsHere == 30 || text.units == 60 || opens && within == 7) {
                throw fault(2);
            }
            unitsHere++;
            text.units++;
            String token = tokens.get(at++);
            if (opens) {
                Formula f = any(within + 1);
                word(")");
                return f;
            }
            switch (token) {
                case "day": return (d, u, s) -> d;
                case "uses": return (d, u, s) -> u;
                case "spent": return (d, u, s) -> s;
                default:
                    int n = Integer.parseInt(token);
                    return (d, u, s) -> n;
            }
        }
    }

    // ---- what is so

    static final class World {
        int day;
        int seed;
        boolean[] alive = new boolean[6];
        int[] coin = new int[6];
        int[] rented = new int[6];
        int struck;
        List<Duel> duels = new ArrayList<>();
        List<int[]> log = new ArrayList<>();

        World copy() {
            World w = new World();
            w.day = day;
            w.seed = seed;
            w.alive = alive.clone();
            w.coin = coin.clone();
            w.rented = rented.clone();
            w.struck = struck;
            for (Duel d : duels) {
                w.duels.add(d.copy());
            }
            w.log = new ArrayList<>(log);
            return w;
        }
    }

    String tape = "";
    Text text = new Text();
    World now = new World();
    List<World> past = new ArrayList<>();
    List<World> undone = new ArrayList<>();
    World[] boxes = new World[3];
    List<int[]> sights = new ArrayList<>(); // reason, day, told, untold
    int time;
    List<Integer> lying = new ArrayList<>();
    int faultCode;
    int faultPlace = -1;

    int feed(int a, int b, int c, int d, int e) {
        if (tape.length() + 20 > 1600) {
            return -1;
        }
        StringBuilder more = new StringBuilder(tape);
        for (int n : new int[] {a, b, c, d, e}) {
            more.append((char) (n >>> 24)).append((char) (n >>> 16 & 255));
            more.append((char) (n >>> 8 & 255)).append((char) (n & 255));
        }
        tape = more.toString();
        return tape.length();
    }

    int end(int n) {
        if (n < 0 || n > tape.length()) {
            return -1;
        }
        tape = tape.substring(0, n);
        return n;
    }

    int code() {
        faultCode = 0;
        faultPlace = -1;
        try {
            text = new Parser(tape).parse();
        } catch (Fault f) {
            faultCode = f.code;
            faultPlace = f.place;
            return -1;
        }
        tape = "";
        now = new World();
        now.seed = text.draw;
        for (int i = 0; i < text.men.size(); i++) {
            now.alive[i] = true;
            now.coin[i] = text.men.get(i).coin;
        }
        for (Duel d : text.duels) {
            now.duels.add(d.copy());
        }
        past.clear();
        undone.clear();
        boxes = new World[3];
        sights.clear();
        lying.clear();
        return text.men.size();
    }

    int fault(int what) {
        return what == 0 ? faultCode : what == 1 ? faultPlace : -1;
    }

    boolean isMan(int m) {
        return m >= 0 && m < text.men.size();
    }

    boolean isDuel(int d) {
        return d >= 0 && d < now.duels.size();
    }

    boolean isReason(int r) {
        return r >= 0 && r < text.reasons.size();
    }

    boolean isSide(int s) {
        return s == 0 || s == 1;
    }

    int man(int m, int what) {
        if (!isMan(m) || what < 0 || what > 4) {
            return -2;
        }
        Man man = text.men.get(m);
        return new int[] {now.alive[m] ? 1 : 0, now.coin[m], man.father, man.dies, now.rented[m]}[what];
    }

    int duel(int d, int what) {
        if (!isDuel(d) || what < 0 || what > 5) {
            return -2;
        }
        Duel x = now.duels.get(d);
        return new int[] {x.men[0], x.men[1], x.morning, x.honour, x.open ? 1 : 0, x.uses.size()}[what];
    }

    int timesUsed(int r) {
        int n = 0;
        for (Duel d : now.duels) {
            for (int[] u : d.uses) {
                n += u[1] == r ? 1 : 0;
            }
        }
        return n;
    }

    int owner(int r) {
        int o = text.reasons.get(r).owner;
        return o >= 0 && now.alive[o] ? o : -1;
    }

    int reason(int r, int what) {
        if (!isReason(r) || what < 0 || what > 7) {
            return -2;
        }
        Reason x = text.reasons.get(r);
        return new int[] {x.kind, owner(r), x.from, x.to, x.rent, x.sort, now.struck >> r & 1, timesUsed(r)}[what];
    }

    int worthBy(List<int[]> uses, int r, int day) {
        int kind = text.reasons.get(r).kind;
        int same = 0;
        for (int[] u : uses) {
            same += text.reasons.get(u[1]).kind == kind ? 1 : 0;
        }
        int w = text.formulas.get(kind).of(day, same, uses.size());
        return w < 1 ? 1 : w > 365 ? 365 : w;
    }

    int worth(int d, int r, int day) {
        return isDuel(d) && isReason(r) && day >= 0 && day <= 9999 ? worthBy(now.duels.get(d).uses, r, day) : -1;
    }

    /** Whether a MAN on a SIDE MAY use it on a DAY, by the uses of the DUEL. */
    boolean allowed(int man, int side, int r, int day, List<int[]> uses, int lent) {
        Reason x = text.reasons.get(r);
        int o = owner(r);
        boolean has = o < 0 || o == man || (now.rented[man] >> r & 1) == 1 || (lent >> r & 1) == 1
            || text.men.get(o).dies <= day;
        if (!has || day < x.from || day > x.to || (now.struck >> r & 1) == 1 || x.sort == 2 && timesUsed(r) > 0) {
            return false;
        }
        for (int[] u : uses) {
            if (u[1] == r && (x.sort != 1 || u[0] == side)) {
                return false;
            }
        }
        return true;
    }

    boolean mayUse(int d, int side, int r) {
        Duel x = now.duels.get(d);
        return x.open && now.day <= x.morning && allowed(x.men[side], side, r, now.day, x.uses, 0);
    }

    int may(int d, int side) {
        if (!isDuel(d) || !isSide(side)) {
            return -1;
        }
        int set = 0;
        for (int r = 0; r < text.reasons.size(); r++) {
            set |= mayUse(d, side, r) ? 1 << r : 0;
        }
        return set;
    }

    int next(int what) {
        int best = -1;
        for (int d = now.duels.size() - 1; d >= 0; d--) {
            Duel x = now.duels.get(d);
            if (x.open && (best < 0 || x.morning <= now.duels.get(best).morning)) {
                best = d;
            }
        }
        return best < 0 || what < 0 || what > 1 ? -1 : what == 0 ? now.duels.get(best).morning : best;
    }

    int heir(int m) {
        for (int s = 0; isMan(m) && s < text.men.size(); s++) {
            if (text.men.get(s).father == m && now.alive[s]) {
                return s;
            }
        }
        return -1;
    }

    int his(int m) {
        if (!isMan(m)) {
            return -1;
        }
        int set = 0;
        for (int d = 0; d < now.duels.size(); d++) {
            for (int side = 0; side < 2; side++) {
                set |= now.duels.get(d).men[side] == m ? may(d, side) : 0;
            }
        }
        return set;
    }

    int comes(int m, int other) {
        if (!isMan(m) || !isMan(other)) {
            return -1;
        }
        int steps = 0;
        for (int x = other; x >= 0; x = text.men.get(x).father) {
            if (x == m) {
                return steps;
            }
            steps++;
        }
        return 0;
    }

    // ---- acts

    void act() {
        past.add(now.copy());
        if (past.size() > 40) {
            past.remove(0);
        }
        undone.clear();
    }

    int put(int d, int side, int r) {
        if (!isDuel(d) || !isSide(side) || !isReason(r) || !mayUse(d, side, r)) {
            return -1;
        }
        act();
        Duel x = now.duels.get(d);
        int w = worthBy(x.uses, r, now.day);
        if (now.log.size() < 60) {
            now.log.add(new int[] {d, x.men[side], r, now.day, w});
        }
        x.uses.add(new int[] {side, r});
        x.morning = Math.min(9999, x.morning + w);
        x.honour = x.men[side];
        return x.morning;
    }

    int rent(int m, int r) {
        if (!isMan(m) || !isReason(r) || !now.alive[m] || owner(r) < 0 || owner(r) == m
            || (now.rented[m] >> r & 1) == 1 || now.coin[m] < text.reasons.get(r).rent) {
            return -1;
        }
        act();
        now.coin[m] -= text.reasons.get(r).rent;
        now.coin[owner(r)] += text.reasons.get(r).rent;
        now.rented[m] |= 1 << r;
        return now.coin[m];
    }

    boolean strike(int r) {
        if (!isReason(r) || (now.struck >> r & 1) == 1) {
            return false;
        }
        act();
        now.struck |= 1 << r;
        return true;
    }

    boolean haveOpen(int a, int b) {
        for (Duel d : now.duels) {
            if (d.open && (d.men[0] == a && d.men[1] == b || d.men[0] == b && d.men[1] == a)) {
                return true;
            }
        }
        return false;
    }

    int insult(int a, int b) {
        if (!isMan(a) || !isMan(b) || a == b || !now.alive[a] || !now.alive[b] || haveOpen(a, b)
            || now.duels.size() == 8) {
            return -1;
        }
        act();
        Duel d = new Duel();
        d.men = new int[] {a, b};
        d.morning = now.day + text.honour;
        now.duels.add(d);
        return now.duels.size() - 1;
    }

    int days(int n) {
        if (n < 0 || n > 400 || now.day + n > 9000) {
            return -1;
        }
        act();
        for (int i = 0; i < n; i++) {
            now.day++;
            for (int m = 0; m < text.men.size(); m++) {
                if (now.alive[m] && text.men.get(m).dies == now.day) {
                    die(m);
                }
            }
            for (Duel d : now.duels) {
                if (d.open && d.morning == now.day) {
                    now.seed = (137 * now.seed + 71) % 1000;
                    d.open = false;
                    die(d.men[now.seed % 2 == 0 ? 0 : 1]);
                }
            }
        }
        return now.day;
    }

    void die(int m) {
        now.alive[m] = false;
        int son = heir(m);
        for (Duel d : now.duels) {
            for (int side = 0; side < 2; side++) {
                if (d.open && d.men[side] == m) {
                    int other = d.men[1 - side];
                    if (son >= 0 && son != other && !haveOpen(son, other)) {
                        d.men[side] = son;
                    } else {
                        d.open = false;
                    }
                }
            }
        }
    }

    boolean undo() {
        if (past.isEmpty()) {
            return false;
        }
        undone.add(now);
        now = past.remove(past.size() - 1);
        return true;
    }

    boolean redo() {
        if (undone.isEmpty()) {
            return false;
        }
        past.add(now);
        now = undone.remove(undone.size() - 1);
        return true;
    }

    // ---- what can come

    /** A state: the MORNING, the uses (side, reason) and the way to it. */
    static final class Node {
        int morning;
        List<int[]> uses;
        List<int[]> way = new ArrayList<>();

        String key() {
            List<String> parts = new ArrayList<>();
            for (int[] u : uses) {
                parts.add(u[0] + "." + u[1]);
            }
            Collections.sort(parts);
            return morning + ":" + parts;
        }
    }

    int[] pair;
    int lentSide;
    int lentSet;
    int states;

    int deathDay() {
        return Math.min(text.men.get(pair[0]).dies, text.men.get(pair[1]).dies);
    }

    Node after(Node n, int side, int r) {
        if (n.morning >= deathDay() || !allowed(pair[side], side, r, n.morning, n.uses, side == lentSide ? lentSet : 0)) {
            return null;
        }
        Node m = new Node();
        m.morning = Math.min(9999, n.morning + worthBy(n.uses, r, n.morning));
        m.uses = new ArrayList<>(n.uses);
        m.uses.add(new int[] {side, r});
        m.way = new ArrayList<>(n.way);
        m.way.add(new int[] {side, r});
        return m;
    }

    /** The states behind one REASON more, or null if all are too many by now. */
    List<Node> level(List<Node> nodes, int... sides) {
        Map<String, Node> found = new LinkedHashMap<>();
        for (Node n : nodes) {
            for (int side : sides) {
                for (int r = 0; r < text.reasons.size(); r++) {
                    Node m = after(n, side, r);
                    if (m != null) {
                        found.putIfAbsent(m.key(), m);
                    }
                }
            }
            if (states + found.size() > 3000) {
                return null;
            }
        }
        states += found.size();
        return new ArrayList<>(found.values());
    }

    List<Node> start(int a, int b, int morning, List<int[]> uses, int side, int set) {
        pair = new int[] {a, b};
        lentSide = side;
        lentSet = set;
        states = 1;
        Node n = new Node();
        n.morning = morning;
        n.uses = uses;
        return List.of(n);
    }

    List<Node> start(int d, int side, int set) {
        Duel x = now.duels.get(d);
        return start(x.men[0], x.men[1], x.morning, x.uses, side, set);
    }

    List<int[]> way;

    int lifeFrom(List<Node> nodes) {
        for (int n = 0; !nodes.isEmpty(); n++) {
            for (Node x : nodes) {
                if (x.morning >= deathDay()) {
                    way = x.way;
                    return n;
                }
            }
            nodes = level(nodes, 0, 1);
            if (nodes == null) {
                return -2;
            }
        }
        return -1;
    }

    int life(int d) {
        lying.clear();
        if (!isDuel(d) || !now.duels.get(d).open) {
            return -1;
        }
        int n = lifeFrom(start(d, 0, 0));
        for (int i = 0; i < n; i++) {
            lying.add(10 * now.duels.get(d).men[way.get(i)[0]] + way.get(i)[1]);
        }
        return n;
    }

    int late(int d, int n) {
        if (!isDuel(d) || !now.duels.get(d).open || n < 0 || n > 16) {
            return -1;
        }
        int best = now.duels.get(d).morning;
        List<Node> nodes = start(d, 0, 0);
        for (int i = 0; i < n; i++) {
            nodes = level(nodes, 0, 1);
            if (nodes == null) {
                return -2;
            }
            for (Node x : nodes) {
                best = Math.max(best, x.morning);
            }
        }
        return best;
    }

    int last(int d, int side) {
        if (!isDuel(d) || !isSide(side) || !now.duels.get(d).open) {
            return -1;
        }
        List<Node> nodes = start(d, 0, 0);
        Node first = nodes.get(0);
        for (int turn = side; !nodes.isEmpty(); turn = 1 - turn) {
            nodes = level(nodes, turn);
            if (nodes == null) {
                return -2;
            }
        }
        Map<String, Boolean> known = new HashMap<>();
        for (int r = 0; r < text.reasons.size(); r++) {
            Node m = after(first, side, r);
            if (m != null && !wins(m, 1 - side, known)) {
                return 10 + r;
            }
        }
        return 0;
    }

    boolean wins(Node n, int side, Map<String, Boolean> known) {
        String key = n.key();
        if (!known.containsKey(key)) {
            boolean win = false;
            for (int r = 0; r < text.reasons.size() && !win; r++) {
                Node m = after(n, side, r);
                win = m != null && !wins(m, 1 - side, known);
            }
            known.put(key, win);
        }
        return known.get(key);
    }

    int shun(int m) {
        if (!isMan(m) || !now.alive[m] || now.duels.size() == 8) {
            return -1;
        }
        int set = 0;
        boolean spent = false;
        for (int o = 0; o < text.men.size(); o++) {
            if (o != m && now.alive[o] && !haveOpen(m, o)) {
                int n = lifeFrom(start(m, o, now.day + text.honour, new ArrayList<>(), 0, 0));
                spent |= n == -2;
                set |= n == -1 ? 1 << o : 0;
            }
        }
        return spent ? -2 : set;
    }

    int hire(int d, int side) {
        lying.clear();
        if (!isDuel(d) || !isSide(side) || !now.duels.get(d).open) {
            return -1;
        }
        int m = now.duels.get(d).men[side];
        int best = -1;
        int bestCost = -1;
        sets:
        for (int set = 0; set < 1 << text.reasons.size(); set++) {
            int cost = 0;
            for (int r = 0; r < text.reasons.size(); r++) {
                if ((set >> r & 1) == 1) {
                    if (owner(r) < 0 || owner(r) == m || (now.rented[m] >> r & 1) == 1) {
                        continue sets;
                    }
                    cost += text.reasons.get(r).rent;
                }
            }
            if ((best < 0 || cost < bestCost) && lifeFrom(start(d, side, set)) >= 0) {
                best = set;
                bestCost = cost;
            }
        }
        if (best >= 0) {
            lying.add(best);
        }
        return bestCost;
    }

    int clash(int m) {
        if (!isMan(m)) {
            return -1;
        }
        Map<Integer, Integer> counts = new HashMap<>();
        for (Duel d : now.duels) {
            if (d.open && (d.men[0] == m || d.men[1] == m)) {
                counts.merge(d.morning, 1, Integer::sum);
            }
        }
        int n = 0;
        for (int c : counts.values()) {
            n += c > 1 ? 1 : 0;
        }
        return n;
    }

    /** Tries every ACT in earnest on a copy, also in DUELS of others. */
    int part(int m) {
        lying.clear();
        if (!isMan(m)) {
            return -1;
        }
        if (clash(m) == 0) {
            return 0;
        }
        World keep = now;
        List<World> keepPast = past;
        List<World> keepUndone = undone;
        past = new ArrayList<>();
        undone = new ArrayList<>();
        List<Integer> found = null;
        for (int depth = 1; depth <= 2 && found == null; depth++) {
            found = partBy(m, depth, 0);
        }
        now = keep;
        past = keepPast;
        undone = keepUndone;
        if (found == null) {
            return -1;
        }
        lying.addAll(found);
        return found.size();
    }

    List<Integer> partBy(int m, int depth, int from) {
        if (depth == 0) {
            return clash(m) == 0 ? new ArrayList<>() : null;
        }
        World before = now;
        for (int d = from; d < before.duels.size(); d++) {
            for (int side = 0; side < 2; side++) {
                for (int r = 0; r < text.reasons.size(); r++) {
                    now = before.copy();
                    if (put(d, side, r) >= 0) {
                        List<Integer> rest = partBy(m, depth - 1, d + 1);
                        if (rest != null) {
                            rest.add(0, 100 * d + 10 * side + r);
                            return rest;
                        }
                    }
                }
            }
        }
        now = before;
        return null;
    }

    int lies(int i) {
        return i >= 0 && i < lying.size() ? lying.get(i) : -1;
    }

    // ---- the log and the sights

    int log(int i, int what) {
        return i >= 0 && i < now.log.size() && what >= 0 && what < 5 ? now.log.get(i)[what] : -1;
    }

    int began(int d) {
        if (!isDuel(d)) {
            return -2;
        }
        for (int[] line : now.log) {
            if (line[0] == d) {
                return line[1];
            }
        }
        return -1;
    }

    int sight(int r, int day) {
        if (!isReason(r) || day < 0 || day > 9000 || sights.size() == 30) {
            return -1;
        }
        sights.add(new int[] {r, day, time, Integer.MAX_VALUE});
        return sights.size() - 1;
    }

    boolean untell(int s) {
        if (s < 0 || s >= sights.size() || sights.get(s)[3] != Integer.MAX_VALUE) {
            return false;
        }
        sights.get(s)[3] = time;
        return true;
    }

    int later(int by) {
        if (by < 0 || by > 1000 || time + by > 100000) {
            return -1;
        }
        return time += by;
    }

    int falses(int k) {
        lying.clear();
        int n = 0;
        for (int i = 0; i < now.log.size(); i++) {
            boolean is = false;
            for (int[] s : sights) {
                boolean told = s[2] <= k;
                boolean untold = s[3] != Integer.MAX_VALUE && s[3] <= k;
                is |= told && !untold && s[0] == now.log.get(i)[2] && s[1] > now.log.get(i)[3];
            }
            if (is && n++ < 8) {
                lying.add(i);
            }
        }
        return n;
    }

    int image(int box) {
        if (box < 0 || box > 2) {
            return -1;
        }
        boxes[box] = now.copy();
        return now.day;
    }

    int back(int box) {
        if (box < 0 || box > 2 || boxes[box] == null) {
            return -1;
        }
        now = boxes[box].copy();
        past.clear();
        undone.clear();
        return now.day;
    }

    int about(int what) {
        int alive = 0;
        int open = 0;
        for (int i = 0; i < 6; i++) {
            alive |= now.alive[i] ? 1 << i : 0;
        }
        for (Duel d : now.duels) {
            open += d.open ? 1 : 0;
        }
        int[] all = {text.men.size(), text.kinds.size(), text.reasons.size(), now.duels.size(), now.day, now.seed, alive,
            open, now.log.size(), past.size(), undone.size(), sights.size(), time, tape.length(), text.units,
            lying.size()};
        return what >= 0 && what < all.length ? all[what] : -1;
    }
}
