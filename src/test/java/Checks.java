import java.nio.charset.StandardCharsets;

/** What the tests have in common: texts fed to an object, and answers counted. */
final class Checks {
    private int wrong;
    private int asked;

    void due(String call, long got, long want) {
        asked++;
        if (got != want) {
            wrong++;
            System.out.println(call + " answered " + got + ", due is " + want);
        }
    }

    void due(String call, boolean got, boolean want) {
        due(call, got ? 1 : 0, want ? 1 : 0);
    }

    int wrong() {
        return wrong;
    }

    void finish(String name) {
        System.out.println(name + ": " + asked + " answers, " + wrong + " not as due");
        if (wrong != 0) {
            System.exit(1);
        }
    }

    static void feed(DuelDelays x, String text) {
        feed(x, text.getBytes(StandardCharsets.ISO_8859_1));
    }

    /** Puts the bytes on an empty TAPE. */
    static void feed(DuelDelays x, byte[] bytes) {
        for (int at = 0; at < bytes.length; at += 20) {
            int[] n = new int[5];
            for (int i = 0; i < 20; i++) {
                int b = at + i < bytes.length ? bytes[at + i] & 255 : 32;
                n[i / 4] = n[i / 4] << 8 | b;
            }
            x.feed(n[0], n[1], n[2], n[3], n[4]);
        }
        x.end(bytes.length);
    }

    static int code(DuelDelays x, String text) {
        x.end(0);
        feed(x, text);
        return x.code();
    }

    static DuelDelays land(String text) {
        DuelDelays x = new DuelDelays();
        if (code(x, text) < 0) {
            System.out.println("a land was refused, fault " + x.fault(0) + " at " + x.fault(1) + ": " + text);
            System.exit(1);
        }
        return x;
    }
}
