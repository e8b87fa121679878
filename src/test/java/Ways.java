/** Runs of calls that bring an object to a state in which there is something of all. */
final class Ways {
    static final String LAND = "man a dies 30 coin 5;man b dies 40 coin 2;man c dies 90 son a;man d dies 3;kind aunt 5;"
        + "kind ill 3+uses;reason jane of aunt by a;reason flu of ill each;"
        + "reason comet of aunt from 10 to 20 all;reason lent of ill by b rent 2;reason old of aunt by d rent 1;"
        + "reason dear of aunt by b rent 9;duel a with b on 8;duel b with c on 8;honour 4;draw 7;";

    private Ways() {
    }

    /**
     * DAY 3; d is dead; DUELS 0 (a, b, MORNING 13), 1 (b, c, 8), 2 (c, a, 7), all OPEN; jane used by a in 0;
     * lent RENTED by a; comet STRUCK; five ACTS kept and two taken back; BOXES 0 and 1 are full; TIME 7; SIGHTS 0
     * and 1, of which 1 is UNTOLD; one number lies there; a text of one MAN, with blanks, is on the TAPE.
     */
    static void rich(DuelDelays x) {
        Checks.code(x, LAND);
        x.image(0);
        x.put(0, 0, 0);
        x.rent(0, 3);
        x.strike(2);
        x.days(3);
        x.image(1);
        x.insult(2, 0);
        x.put(1, 1, 1);
        x.put(0, 0, 1);
        x.undo();
        x.undo();
        x.later(5);
        x.sight(0, 9);
        x.sight(1, 2);
        x.later(2);
        x.untell(1);
        x.falses(7);
        x.feed(0x6d616e20, 0x71206469, 0x65732035, 0x3b202020, 0x20202020);
    }
}
