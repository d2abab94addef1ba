/** Promises 38 to 41, sentence by sentence. */
final class EdgesOfKept {
    private EdgesOfKept() { }

    static void run() {
        keep();
        again();
        againRefused();
        count();
        row();
    }

    private static void keep() {
        Due.of("Promise 38", "DAY, CLOCKS, SPENT, LOANS, LOSS, what was SAID are kept under a number 0 .. 1: true.");
        ClockForTalk c = Due.busy();
        c.end(0);
        c.lend(2, 1, 30, 7);
        c.sheet(3, 0, 0, 0);
        c.days(1);
        String kept = Due.all(c);
        Due.is("keep(1)", c.keep(1), true);
        Due.same("nothing changes", Due.all(c), kept);
        c.say(3, 3);
        c.give(0, 1, 1);
        c.days(99);
        c.lend(2, 1, 30, 999);
        Due.is("again(1)", c.again(1), true);
        c.days(0);
        // What can be undone is forgotten by again(), so five are none now.
        Due.is("what can be undone", c.count(9), 0);
        Due.is("DAY", c.count(2), 7);
        Due.is("CLOCKS", c.count(6), 0);
        Due.is("SPENT", c.person(0, 3), 4);
        Due.is("LOANS", c.count(3), 3);
        Due.is("a LOAN that had ended", c.loan(2, 4), 1);
        Due.is("a LOAN that had not", c.loan(1, 4), 0);
        Due.is("LOSS", c.person(2, 6), 30);
        Due.is("SAID", c.count(4), 1);
        ClockForTalk nobody = new ClockForTalk();
        Due.is("keep(0), nobody being there", nobody.keep(0), true);
        Due.is("again(0)", nobody.again(0), true);

        Due.of("Promise 38", "Refused: others.");
        int[] wrong = {-1, 2, 3, 31, 32, Integer.MAX_VALUE, Integer.MIN_VALUE};
        for (int i : wrong) Due.refusedFalse("keep(" + i + ")", x -> x.keep(i));
    }

    private static void again() {
        Due.of("Promise 39", "They are as they were kept under a number.");
        ClockForTalk c = Due.busy();
        c.keep(1);
        c.give(0, 1, 31);
        Due.is("keep(0) anew", c.keep(0), true);
        c.days(5);
        Due.is("again(1)", c.again(1), true);
        Due.is("CLOCK as under 1", c.person(0, 1), 31);
        Due.is("DAY as under 1", c.count(2), 6);
        Due.is("again(0)", c.again(0), true);
        Due.is("CLOCK as it was kept last under 0", c.person(0, 1), 0);
        c.days(5);
        Due.is("again(0) once more", c.again(0), true);
        Due.is("DAY as under 0", c.count(2), 6);
        c.move(0, 77);
        Due.rule(c, "7");
        c.forget();
        Due.grammar(c, "");
        c.again(1);
        Due.is("where one lives stays", c.person(0, 0), 77);
        Due.is("THE RULE stays", c.cost(0, 3), 7);
        Due.is("what was read stays forgotten", c.count(8), 0);
        Due.is("THE GRAMMAR stays", c.count(7), 0);
        Due.row("the ROW stays as days() told it", c, 1, 0);
    }

    private static void againRefused() {
        Due.of("Promise 39", "Refused: nothing kept, PEOPLE or THINGS came since.");
        Due.refusedFalse("again(1), nothing kept", c -> c.again(1));
        int[] wrong = {-1, 2, 3, 31, 32, Integer.MAX_VALUE, Integer.MIN_VALUE};
        for (int i : wrong) Due.refusedFalse("again(" + i + ")", c -> c.again(i));
        ClockForTalk p = Due.busy();
        p.keep(1);
        Due.people(p, "");
        Due.people(p, "1:1;");
        Due.things(p, "");
        Due.things(p, "x");
        Due.is("nobody came: empty ones, refused ones", p.again(0), true);
        Due.people(p, "1:1");
        Due.is("PEOPLE came: 0", p.again(0), false);
        Due.is("PEOPLE came: 1", p.again(1), false);
        Due.is("keep(1) since", p.keep(1), true);
        Due.is("again(1)", p.again(1), true);
        Due.is("0 is not kept", p.again(0), false);
        Due.things(p, "ab1-1=1");
        Due.is("THINGS came: 1", p.again(1), false);
        p.give(2, 0, 1);
        Due.is("refused", p.again(1), false);
        Due.is("what can be undone stays with a refused one", p.undo(), 0);
    }

    private static void count() {
        Due.of("Promise 40", "What 0: PEOPLE, 1: THINGS, 2: DAY, 3: LOANS, 4: THINGS that were SAID (bits), 5: those that can be said today (bits: not SAID, not too late), 6: CLOCKS in all, 7: LINES of THE GRAMMAR, 8: CLOCKS that were read (bits of PEOPLE), 9: what can be undone, 10: numbers of the ROW, 11: signs of THE TEXT.");
        ClockForTalk c = Due.busy();
        int[] due = {3, 4, 6, 2, 1, 12, 146, 1, 2, 4, 2, 2};
        for (int what = 0; what <= 11; what++) Due.is("count(" + what + ")", c.count(what), due[what]);
        ClockForTalk full = Due.town("0:999;0:999;0:999;0:999;0:999;0:999", Due.times("ab1-99=1;", 7) + "ab1-99=1");
        Due.is("all that can be said", full.count(5), 255);
        for (int i = 0; i < 8; i++) full.say(i, 1);
        Due.is("all that were SAID", full.count(4), 255);
        Due.is("none can be said", full.count(5), 0);
        full.sheet(2, 6, 9999, 0);
        Due.is("CLOCKS in all", full.count(6), 6 * 9999);
        for (int i = 0; i < 6; i++) full.read(i, 0);
        Due.is("all that were read", full.count(8), 63);
        for (int i = 0; i < 13; i++) full.days(1);
        Due.is("what can be undone", full.count(9), 12);
        Due.tell(full, Due.times("z", 80));
        Due.is("signs", full.count(11), 80);
        Due.shorter(full, "abcdefgabcdefg");
        Due.is("numbers of the ROW", full.count(10), 14);

        Due.of("Promise 40", "NONE for another what.");
        int[] wrong = {-1, 12, 13, 32, Integer.MAX_VALUE, Integer.MIN_VALUE};
        for (int what : wrong) Due.refused("count(" + what + ")", -1, x -> x.count(what));
    }

    private static void row() {
        Due.of("Promise 41", "Number i of the ROW.");
        ClockForTalk c = Due.busy();
        Due.is("row(0)", c.row(0), 12);
        Due.is("row(1)", c.row(1), 63);
        Due.shorter(c, "abcdefgabcdefg");
        Due.is("row(0) of fourteen, by ab>c", c.row(0), 2);
        Due.is("row(11)", c.row(11), 6);
        c.relay(0, 1, 1);
        Due.row("a ROW of two behind one of twelve", c, 0, 1);

        Due.of("Promise 41", "NoSuchElementException: none such.");
        int[] wrong = {-1, 2, 3, 11, 14, 32, Integer.MAX_VALUE, Integer.MIN_VALUE};
        for (int i : wrong) Due.throwsNoSuch("row(" + i + ")", () -> c.row(i));
        Due.throwsNoSuch("row(0) of none", () -> new ClockForTalk().row(0));
        c.gifts(0);
        Due.throwsNoSuch("row(1) of one", () -> c.row(1));
    }
}
