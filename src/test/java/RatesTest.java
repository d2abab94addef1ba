/** Promises 35 to 37: rate, run, years. */
public final class RatesTest {
    public static void main(String[] args) {
        rate();
        run();
        runRound();
        years();
        yearsAsTalk();
        Due.finish();
    }

    private static void rate() {
        Due.of("Promise 35", "THE TEXT is another RULE (an empty one: none): what best() of all PEOPLE comes to together by it less that by THE RULE: how much (below 0, too); the ROW: both.");
        ClockForTalk c = Due.town("5:40;6:10;20:100", "ab10-9=5;ac20-5=8;ba9-9=4;cb30-50=9");
        Due.is("35: l", Due.rate(c, "l"), 5);
        Due.row("35: l", c, 26, 21);
        Due.is("35: an empty one", c.rate(), 0);
        Due.row("35: an empty one", c, 21, 21);
        Due.is("35: below 0", Due.rate(c, "999"), -21);
        Due.row("35: below 0", c, 0, 21);
        Due.is("35: THE RULE stays", c.cost(0, 2), 10);
        Due.rule(c, "999");
        Due.is("35: an empty one is none, not THE RULE", c.rate(), 21);
        Due.row("35: an empty one is none", c, 21, 0);
        Due.of("Promise 35", "-10000 - p: the sign at p can't stand there (as rule()).");
        String[] texts = {"x", "l+", "(l", "l)", "(((((l", "1234", Due.times("1+", 20) + "1", Due.times("1+", 20)};
        int[] due = {-10000, -10002, -10002, -10001, -10004, -10003, -10040, -10040};
        for (int i = 0; i < texts.length; i++) Due.is("35: " + texts[i], Due.rate(c, texts[i]), due[i]);
        Due.row("35: the row stays", c, 21, 0);
        Due.is("35: the text is empty", c.count(11), 0);
        Due.is("35: THE RULE stays behind a fault", c.cost(0, 2), 999);
        Due.is("35: nobody", Due.rate(new ClockForTalk(), "l"), 0);
        c.say(0, 0);
        Due.rule(c, "");
        c.days(10);
        Due.is("35: those that can be said today", Due.rate(c, "0"), 0);
        Due.row("35: the fourth alone", c, 9, 9);
    }

    private static void run() {
        Due.of("Promise 36", "who would not pay (bits; 0, if that one OWES nothing); the ROW: how many, what they OWE in all. NONE: none such.");
        ClockForTalk c = Due.town("0:100;0:0;0:0;0:0", "");
        c.lend(0, 1, 60, 90);
        c.lend(1, 2, 50, 90);
        c.lend(2, 3, 45, 90);
        // d owes 45 to c, c 50 to b, b 60 to a; clocks: 40, 10, 5, 45.
        Due.is("36: a owes nothing", c.run(0), 0);
        Due.row("36: a owes nothing", c, 0, 0);
        Due.is("36: b alone", c.run(1), 2);
        Due.row("36: b owes 60", c, 1, 60);
        Due.is("36: c strikes b, who has 10 and owes 60", c.run(2), 6);
        Due.row("36: two owe 110", c, 2, 110);
        Due.is("36: d strikes c, c strikes b", c.run(3), 14);
        Due.row("36: three owe 155", c, 3, 155);
        c.sheet(2, 4, 40, 10);
        // 40, 50, 60, 70: c has 60 of 50, so it pays.
        Due.is("36: c can pay", c.run(3), 8);
        Due.row("36: d owes 45", c, 1, 45);
        Due.is("36: b has 50 of 60", c.run(2), 6);
        c.sheet(2, 4, 60, 0);
        Due.is("36: just enough is enough", c.run(2), 4);
        Due.is("36: nobody", c.run(4), -1);
        Due.is("36: nobody, ahead", c.run(-1), -1);
        Due.row("36: the row stays", c, 1, 50);
        c.days(90);
        Due.is("36: ended ones are not owed", c.run(3), 0);
        Due.row("36: nobody owes", c, 0, 0);
    }

    private static void runRound() {
        Due.of("Promise 36", "and each who lent to one who does not pay, and whose CLOCK and what those who pay OWE to it are together less than what it OWES, paid nothing, too, and so on");
        // b owes a 30; c and d owe b 20 each. Two who don't pay strike b only together.
        ClockForTalk c = Due.town("0:100;0:100;0:0;0:0", "");
        c.lend(0, 1, 30, 90);
        c.lend(1, 2, 20, 90);
        c.lend(1, 3, 20, 90);
        c.sheet(2, 2, 0, 10);
        Due.is("36: 10 and 20 are 30", c.run(2), 4);
        c.sheet(2, 2, 0, 9);
        Due.is("36: 9 and 20 are not", c.run(2), 6);
        Due.row("36: 20 and 30", c, 2, 50);
        // Round: a owes c as well, and c is the first.
        c.lend(1, 0, 5, 90);
        c.sheet(3, 0, 0, 0);
        Due.is("36: b has 40 to come of 30, so a strikes nobody", c.run(0), 1);
        Due.row("36: a owes 5", c, 1, 5);
        Due.is("36: c strikes b, who has 25 to come, and b strikes a, who has none", c.run(2), 7);
        Due.row("36: 5, 30 and 20", c, 3, 55);
        Due.is("36: of d the same", c.run(3), 11);
    }

    private static void years() {
        Due.of("Promise 37", "n DAYS (1 .. 60) from now: in each, ahead of it, a DRAW of 10 tells a THING (by its number; none: nothing) that is said by the WAY of thing() 7, if it can be: how many were said; the ROW: what they cost, their WORTH. NONE: another n.");
        ClockForTalk c = Due.town("0:40;0:40", "ab10-99=5;ba10-99=7;ab7-0=1;ba3-99=2;ab8-99=9;ba2-99=3;ab5-99=4;ba5-1=6");
        int[] seeds = {0, 1, 7, -1, 123456789, Integer.MIN_VALUE, Integer.MAX_VALUE};
        for (int seed : seeds) {
            for (int n = 1; n <= 60; n += 7) {
                int[] due = expected(c, seed, n);
                Due.is("37: years(" + seed + ", " + n + ")", c.years(seed, n), due[0]);
                Due.row("37: years(" + seed + ", " + n + ")", c, due[1], due[2]);
            }
        }
        Due.is("37: nothing changed", c.count(2), 0);
        Due.is("37: nothing was said", c.count(4), 0);
        Due.is("37: nothing to undo", c.count(9), 0);
        Due.is("37: clocks stay", c.count(6), 80);
        c.years(1, 1);
        int cost = c.row(0);
        Due.is("37: 0 days", c.years(1, 0), -1);
        Due.is("37: 61 days", c.years(1, 61), -1);
        Due.is("37: the row stays", c.row(0), cost);
        Due.is("37: nothing there", new ClockForTalk().years(5, 60), 0);
        c.give(0, 1, 5);
        c.years(1, 60);
        Due.is("37: what can be undone stays", c.undo(), 0);
        Due.is("37: as it was ahead", c.person(0, 1), 40);
    }

    /** The same by the calls of talk, on a clock that is brought back then. */
    private static int[] expected(ClockForTalk c, int seed, int n) {
        c.keep(0);
        int r = seed, many = 0, cost = 0, worth = 0;
        for (int i = 0; i < n; i++) {
            r = r * 1103515245 + 12345;
            int thing = (r >>> 16) % 10;
            if (thing < c.count(1)) {
                int a = c.say(thing, c.thing(thing, 7));
                if (a >= 0) { many++; cost += a; worth += c.thing(thing, 4); }
            }
            c.days(1);
        }
        c.again(0);
        return new int[] {many, cost, worth};
    }

    private static void yearsAsTalk() {
        Due.of("Promise 37", "A DRAW of n: R = R times 1103515245 + 12345 (as ints; R is seed at first), (R without sign, by 65536) % n.");
        // Over New Year the clocks are set again, what was said is to be said again, and loans are due.
        ClockForTalk c = Due.town("0:9;0:9", "ab10-99=5;ba10-99=7;ab7-99=1;ba3-99=2");
        c.lend(0, 1, 5, 95);
        c.days(80);
        Due.talk(c, "b0;b1");
        for (int seed = 0; seed < 20; seed++) {
            int[] due = expected(c, seed, 60);
            Due.is("37: over New Year, seed " + seed, c.years(seed, 60), due[0]);
            Due.row("37: over New Year, seed " + seed, c, due[1], due[2]);
        }
        // By hand: seed 0 draws 12345 >>> 16 = 0 at first.
        ClockForTalk h = Due.town("0:9;0:9", "ab9-99=5");
        Due.is("37: thing 0", h.years(0, 1), 1);
        Due.row("37: sung, its worth", h, 3, 5);
        Due.rule(h, "0");
        Due.is("37: for nothing", h.years(0, 1), 1);
        Due.row("37: for nothing, its worth", h, 0, 5);
        // Seed 1: 1103527590 >>> 16 = 16838: thing 8, which is none.
        Due.is("37: none such", h.years(1, 1), 0);
        Due.row("37: none such", h, 0, 0);
    }
}
