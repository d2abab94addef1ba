/** Promises 35 to 37, sentence by sentence. */
final class EdgesOfRates {
    private EdgesOfRates() { }

    static void run() {
        rate();
        rateWrong();
        run36();
        runStruck();
        years();
        draws();
    }

    private static void rate() {
        Due.of("Promise 35", "THE TEXT is another RULE (an empty one: none): what best() of all PEOPLE comes to together by it less that by THE RULE: how much (below 0, too); the ROW: both.");
        ClockForTalk c = Due.town("5:40;6:10;20:100", "ab10-9=5;ac20-5=8;ba9-9=4;cb30-50=9");
        Due.is("an empty one, THE RULE being none", c.rate(), 0);
        Due.row("an empty one", c, 21, 21);
        Due.is("l", Due.rate(c, "l"), 5);
        Due.row("l", c, 26, 21);
        Due.is("999", Due.rate(c, "999"), -21);
        Due.row("999", c, 0, 21);
        Due.is("0", Due.rate(c, "0"), 5);
        Due.is("THE RULE stays", c.cost(0, 2), 10);
        Due.rule(c, "999");
        Due.is("an empty one is none, not THE RULE", c.rate(), 21);
        Due.row("an empty one is none, not THE RULE", c, 21, 0);
        Due.is("THE RULE stays 999", c.cost(0, 2), 999);
        Due.is("THE RULE itself", Due.rate(c, "999"), 0);
        Due.rule(c, "0");
        Due.is("best() of each with its own CLOCK: 38 of a's 40, of c's 100, but not of b's 10", Due.rate(c, "41-w"), 8 + 9 - 26);
        ClockForTalk nobody = new ClockForTalk();
        Due.is("nobody", Due.rate(nobody, "l"), 0);
        Due.row("nobody", nobody, 0, 0);
        Due.is("40 signs", Due.rate(c, Due.times("1*", 19) + "01"), 0);
        Due.is("those that can be said today", Due.rate(Due.busy(), "999"), -13);
        ClockForTalk minus = Due.town("0:9;0:9", "ab3-9=1");
        Due.is("less by one", Due.rate(minus, "99"), -1);
        Due.row("less by one", minus, 0, 1);
    }

    private static void rateWrong() {
        Due.of("Promise 35", "-10000 - p: the sign at p can't stand there (as rule()).");
        String[] texts = {"x", "l+", "(l", "l)", "1234", "1<2<3", "(((((1", "-", Due.times("1+", 20), Due.times("1+", 20) + "1", Due.times("1+", 19) + "12x", Due.times("1+", 19) + "1x1", Due.times("-", 80)};
        int[] p = {0, 2, 2, 1, 3, 3, 4, 1, 40, 40, 40, 39, 40};
        for (int i = 0; i < texts.length; i++) Due.refusedText("rate()", texts[i], -10000 - p[i], c -> c.rate());
    }

    private static void run36() {
        Due.of("Promise 36", "If one paid nothing of what it OWES (LOANS that have not ended)");
        ClockForTalk c = Due.busy();
        Due.is("b OWES 5", c.run(1), 2);
        Due.row("b OWES 5", c, 1, 5);
        Due.is("a has lent it 5, and OWED what has ended", c.run(0), 0);
        Due.row("a", c, 0, 0);
        c.days(3);
        Due.is("b OWES nothing then", c.run(1), 0);

        Due.of("Promise 36", ": who would not pay (bits; 0, if that one OWES nothing); the ROW: how many, what they OWE in all.");
        Due.row("b OWES nothing then", c, 0, 0);
        c.lend(2, 1, 20, 99);
        c.lend(0, 1, 7, 99);
        Due.is("two LOANS of one", c.run(1), 2);
        Due.row("two LOANS of one", c, 1, 27);
        ClockForTalk six = Due.town("0:0;0:0;0:0;0:0;0:0;0:9", "");
        for (int i = 5; i > 0; i--) six.lend(i, i - 1, 9, 99);
        six.sheet(3, 0, 0, 0);
        Due.is("a strikes b, b c, and so on, but f OWES nothing", six.run(0), 31);
        Due.row("a strikes b, b c, and so on", six, 5, 45);
        Due.is("e strikes none", six.run(4), 16);
        Due.is("f", six.run(5), 0);
        six.sheet(2, 6, 9, -9);
        six.lend(0, 5, 9, 99);
        six.sheet(3, 0, 0, 0);
        Due.is("all round", six.run(2), 63);
        Due.row("all round", six, 6, 54);
        ClockForTalk back = Due.town("0:9;0:0;0:0;0:0;0:0;0:0", "");
        for (int i = 0; i < 5; i++) back.lend(i, i + 1, 9, 99);
        back.sheet(3, 0, 0, 0);
        Due.is("f strikes e, e d, and so on, but a OWES nothing", back.run(5), 62);
        Due.row("f strikes e, e d, and so on", back, 5, 45);

        Due.of("Promise 36", "NONE: none such.");
        int[] nobody = {-1, 3, 6, 32, Integer.MAX_VALUE, Integer.MIN_VALUE};
        for (int p : nobody) Due.refused("run(" + p + ")", -1, x -> x.run(p));
    }

    private static void runStruck() {
        Due.of("Promise 36", ", and each who lent to one who does not pay, and whose CLOCK and what those who pay OWE to it are together less than what it OWES, paid nothing, too, and so on");
        // b OWES a 30; c and d OWE b 20 each.
        ClockForTalk c = Due.town("0:99;0:99;0:0;0:0", "");
        c.lend(0, 1, 30, 99);
        c.lend(1, 2, 20, 99);
        c.lend(1, 3, 20, 99);
        c.sheet(2, 2, 0, 10);
        Due.is("10 of its CLOCK and 20 of d are not less than 30", c.run(2), 4);
        c.sheet(2, 2, 0, 9);
        Due.is("9 and 20 are", c.run(2), 6);
        Due.row("9 and 20 are", c, 2, 50);
        c.sheet(2, 2, 0, 30);
        Due.is("b has enough itself", c.run(3), 8);
        c.sheet(3, 0, 0, 0);
        Due.is("a has lent to b, who does not pay, but OWES nothing", c.run(1), 2);
        // One who did not lend is not struck, though it has too little.
        ClockForTalk d = Due.town("0:9;0:9;0:9", "");
        d.lend(0, 1, 9, 99);
        d.lend(2, 0, 9, 99);
        d.sheet(3, 0, 0, 0);
        Due.is("b strikes a, who OWES c 9; c OWES nothing", d.run(1), 3);
        Due.is("a strikes c alone, who OWES nothing; b did not lend", d.run(0), 1);
        ClockForTalk e = Due.town("0:20;0:20;0:0;0:0", "");
        e.lend(0, 2, 10, 99);
        e.lend(1, 3, 10, 99);
        e.lend(0, 1, 10, 99);
        e.lend(1, 0, 12, 99);
        e.sheet(3, 0, 0, 0);
        Due.is("c strikes a (10 to come of 12 it OWES), a b (10 to come of 10)", e.run(2), 5);
        e.days(30);
        Due.is("by what is OWED now: c 11 and b 11 to a, who OWES 13; d 11 and a 13 to b, who OWES 11", e.run(2), 5);
        Due.row("11 and 13", e, 2, 24);
        Due.is("d strikes nobody: b has 13 to come of 11", e.run(3), 8);
    }

    private static final String EIGHT = "ab3-99=1;ab3-99=2;ab3-99=4;ab3-99=8;ab3-99=16;ab3-99=32;ab3-99=64;ab3-99=99";

    private static void years() {
        Due.of("Promise 37", "n DAYS (1 .. 60) from now: in each, ahead of it, a DRAW of 10 tells a THING (by its number; none: nothing) that is said by the WAY of thing() 7, if it can be: how many were said; the ROW: what they cost, their WORTH.");
        // Seed 0 draws 0, 6, 6, 5, 8, 5, 5, 9, 0, 0, 9, 2.
        ClockForTalk c = Due.town("0:99;0:0", EIGHT);
        int[] days = {1, 2, 3, 4, 5, 11, 12};
        int[][] due = {{1, 1, 1}, {2, 2, 65}, {2, 2, 65}, {3, 3, 97}, {3, 3, 97}, {3, 3, 97}, {4, 4, 101}};
        for (int i = 0; i < days.length; i++) {
            Due.is("years(0, " + days[i] + ")", c.years(0, days[i]), due[i][0]);
            Due.row("years(0, " + days[i] + ")", c, due[i][1], due[i][2]);
        }
        Due.is("all eight in 60", c.years(0, 60), 8);
        Due.row("all eight in 60", c, 8, 226);
        c.sheet(2, 1, 2, 0);
        Due.is("the CLOCK pays two", c.years(0, 60), 2);
        Due.row("the CLOCK pays two", c, 2, 65);
        c.sheet(3, 0, 0, 0);
        Due.is("it pays none", c.years(0, 60), 0);
        Due.row("it pays none", c, 0, 0);
        ClockForTalk y = Due.town("0:1;0:0", EIGHT);
        y.days(99);
        Due.is("THING 0 on DAY 99; New Year is behind it; THING 6 on DAY 100", y.years(0, 2), 2);
        Due.is("the CLOCK of the year pays one", y.years(0, 60), 2);
        ClockForTalk late = Due.town("0:9;0:0", "ab3-0=1;ab3-0=2;ab3-0=4;ab3-0=8;ab3-0=16;ab3-3=32;ab3-0=64;ab3-0=99");
        Due.is("the first on DAY 0; 6 is too late on DAY 1; 5 is not on DAY 3", late.years(0, 60), 2);
        Due.row("THING 0, THING 5", late, 2, 33);
        ClockForTalk l = Due.town("0:9;0:9", "ab3-99=1");
        l.lend(1, 0, 5, 1);
        Due.rule(l, "c");
        Due.is("THING 0 on DAY 0 for all 14", l.years(0, 1), 1);
        Due.row("THING 0 on DAY 0 for all 14", l, 14, 1);
        Due.rule(l, "0");
        Due.is("for nothing it is said, too", l.years(0, 1), 1);
        Due.row("for nothing", l, 0, 1);
        ClockForTalk none = Due.town("0:9;0:0", "");
        Due.is("nothing to say", none.years(0, 60), 0);
        ClockForTalk eight = Due.town("0:9;0:0", EIGHT);
        Due.is("a DRAW of 8 is none", eight.years(1, 1), 0);
        Due.is("of 9", eight.years(-2, 1), 0);
        ClockForTalk same = Due.busy();
        String ahead = Due.all(same);
        same.years(0, 60);
        same.pool();
        Due.same("nothing changes", Due.all(same), ahead);

        Due.of("Promise 37", "NONE: another n.");
        int[] wrong = {0, -1, 61, 100, Integer.MAX_VALUE, Integer.MIN_VALUE};
        for (int n : wrong) Due.refused("years(0, " + n + ")", -1, x -> x.years(0, n));
    }

    private static void draws() {
        Due.of("Promise 37", "A DRAW of n: R = R times 1103515245 + 12345 (as ints; R is seed at first), (R without sign, by 65536) % n.");
        // The first DRAW of each seed; of 2, 3, 7, -1 and MIN R is below 0.
        int[] seeds = {0, 2, 3, 5, 7, -1, 123456789, 1, -2, Integer.MAX_VALUE, Integer.MIN_VALUE};
        int[] draw = {0, 6, 5, 5, 2, 7, 6, 8, 9, 9, 8};
        ClockForTalk c = Due.town("0:99;0:0", EIGHT);
        for (int i = 0; i < seeds.length; i++) {
            int worth = draw[i] < 7 ? 1 << draw[i] : draw[i] == 7 ? 99 : 0;
            Due.is("years(" + seeds[i] + ", 1)", c.years(seeds[i], 1), worth > 0 ? 1 : 0);
            Due.row("years(" + seeds[i] + ", 1)", c, worth > 0 ? 1 : 0, worth);
        }
        // The second of -1 is 9, the third 2, the fourth 6.
        c.years(-1, 4);
        Due.row("years(-1, 4)", c, 3, 99 + 4 + 64);
    }
}
