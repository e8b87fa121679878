import java.util.function.Consumer;
import java.util.function.Predicate;
import java.util.function.ToIntFunction;

/**
 * Two objects that went the same way, one of which is called once more: a call that changes nothing
 * leaves both alike in all that can be asked, undone, redone, brought back from a BOX or read from the TAPE.
 * (That takes more than the 512 calls that are promised; the class does not count them.)
 */
final class Twins {
    private final Checks checks;

    Twins(Checks checks) {
        this.checks = checks;
    }

    /** A call that answers so and changes nothing. */
    void same(String call, Consumer<DuelDelays> way, ToIntFunction<DuelDelays> asked, int want) {
        DuelDelays called = new DuelDelays();
        DuelDelays other = new DuelDelays();
        way.accept(called);
        way.accept(other);
        checks.due(call, asked.applyAsInt(called), want);
        checks.due(call + ": nothing is changed", all(called).equals(all(other)), true);
    }

    /** The same of a call whose answer is true or false. */
    void sameBit(String call, Consumer<DuelDelays> way, Predicate<DuelDelays> asked, boolean want) {
        same(call, way, x -> asked.test(x) ? 1 : 0, want ? 1 : 0);
    }

    /** A code() that is refused, and changes nothing but what fault() answers. */
    void sameButFault(String call, Consumer<DuelDelays> way) {
        DuelDelays called = new DuelDelays();
        DuelDelays other = new DuelDelays();
        way.accept(called);
        way.accept(other);
        checks.due(call, called.code(), DuelDelays.NONE);
        String faults = "fault [^\n]*\n";
        boolean same = all(called).replaceAll(faults, "").equals(all(other).replaceAll(faults, ""));
        checks.due(call + ": nothing is changed", same, true);
    }

    private static String all(DuelDelays x) {
        StringBuilder s = new StringBuilder();
        see(x, s);
        for (int i = 0; i < 50 && x.undo(); i++) {
            see(x, s);
        }
        for (int i = 0; i < 50 && x.redo(); i++) {
            see(x, s);
        }
        for (int box = 0; box < 3; box++) {
            s.append("box ").append(x.back(box)).append('\n');
            see(x, s);
        }
        for (int k = -1; k < 12; k++) {
            s.append("falses ").append(x.falses(k)).append('\n');
            see(x, s);
        }
        s.append("code ").append(x.code()).append('\n');
        see(x, s);
        return s.toString();
    }

    private static void see(DuelDelays x, StringBuilder s) {
        s.append("fault ").append(x.fault(0)).append(' ').append(x.fault(1)).append("\nabout");
        for (int what = 0; what < 16; what++) {
            s.append(' ').append(x.about(what));
        }
        s.append("\nlies");
        for (int i = 0; i < x.about(15); i++) {
            s.append(' ').append(x.lies(i));
        }
        s.append("\nlog");
        for (int i = 0; i < x.about(8); i++) {
            for (int what = 0; what < 5; what++) {
                s.append(' ').append(x.log(i, what));
            }
        }
        seeMen(x, s);
        seeDuels(x, s);
        s.append("\nreasons");
        for (int reason = 0; reason < x.about(2); reason++) {
            for (int what = 0; what < 8; what++) {
                s.append(' ').append(x.reason(reason, what));
            }
        }
        s.append('\n');
    }

    private static void seeMen(DuelDelays x, StringBuilder s) {
        s.append("\nmen");
        for (int man = 0; man < x.about(0); man++) {
            for (int what = 0; what < 5; what++) {
                s.append(' ').append(x.man(man, what));
            }
            s.append(' ').append(x.his(man)).append(' ').append(x.clash(man));
        }
    }

    private static void seeDuels(DuelDelays x, StringBuilder s) {
        s.append("\nduels");
        for (int duel = 0; duel < x.about(3); duel++) {
            for (int what = 0; what < 6; what++) {
                s.append(' ').append(x.duel(duel, what));
            }
            s.append(' ').append(x.began(duel)).append(' ').append(x.may(duel, 0)).append(' ').append(x.may(duel, 1));
            for (int reason = 0; reason < x.about(2); reason++) {
                s.append(' ').append(x.worth(duel, reason, 7));
            }
        }
    }
}
